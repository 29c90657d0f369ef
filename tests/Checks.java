import java.util.NoSuchElementException;

/** What the tests share: checks that tell where they failed, and houses that are quickly set up. */
abstract class Checks {
    static final String BOUNDS = "IndexOutOfBoundsException";
    static final String ARGUMENT = "IllegalArgumentException";
    static final String STATE = "IllegalStateException";
    static final String ELEMENT = "NoSuchElementException";
    static final int FAR = Integer.MAX_VALUE;
    static final int LOW = Integer.MIN_VALUE;
    static final int NONE = Seattable.NONE;

    private static int wrong;
    private static String said = "";

    interface Question {
        Object ask();
    }

    /** Names the sentence of the document that the next checks are for. */
    static void says(String sentence) {
        said = sentence;
    }

    static void is(Object want, Object got) {
        if (!want.equals(got)) {
            report(got + ", due is " + want);
        }
    }

    static void isRefused(String exception, Question call) {
        is(exception, thrown(call));
    }

    static void isRefused(String exception, Runnable call) {
        is(exception, thrown(call));
    }

    private static void report(String what) {
        wrong++;
        for (StackTraceElement at : new Throwable().getStackTrace()) {
            if (!at.getClassName().equals("Checks")) {
                String place = at.getFileName() + ", line " + at.getLineNumber();
                System.out.println(place + ": " + what + "  [" + said + "]");
                return;
            }
        }
    }

    static void finish(String test) {
        System.out.println(test + ": " + (wrong == 0 ? "all answers are as due" : wrong + " answers are not as due"));
        if (wrong != 0) {
            System.exit(1);
        }
    }

    static String thrown(Question call) {
        try {
            return "answered " + call.ask();
        } catch (RuntimeException e) {
            return e.getClass().getSimpleName();
        }
    }

    static String thrown(Runnable call) {
        return thrown(() -> {
            call.run();
            return "nothing";
        });
    }

    // ---- houses

    static Seattable house(int parties, int lands) {
        Seattable x = new Seattable();
        for (int i = 0; i < parties; i++) {
            x.addParty();
        }
        for (int i = 0; i < lands; i++) {
            x.addLand();
        }
        return x;
    }

    /** A house with one land, and these votes in it. */
    static Seattable votes(int... votes) {
        Seattable x = house(votes.length, 1);
        for (int i = 0; i < votes.length; i++) {
            x.setVotes(i, 0, votes[i]);
        }
        return x;
    }

    /** A house without parties, and lands with these people. */
    static Seattable people(int... people) {
        Seattable x = house(0, people.length);
        for (int i = 0; i < people.length; i++) {
            x.setPeople(i, people[i]);
        }
        return x;
    }

    static Seattable table(int[][] votes, int[] parties, int[] lands) {
        Seattable x = house(parties.length, lands.length);
        for (int p = 0; p < parties.length; p++) {
            x.setSum(false, p, parties[p]);
            for (int l = 0; l < lands.length; l++) {
                x.setVotes(p, l, votes[p][l]);
            }
        }
        for (int l = 0; l < lands.length; l++) {
            x.setSum(true, l, lands[l]);
        }
        return x;
    }

    static Seattable ballots(int candidates, int... manyAndRows) {
        Seattable x = new Seattable();
        x.setCandidates(candidates);
        for (int i = 0; i < manyAndRows.length; i += 2) {
            x.addBallot(manyAndRows[i], manyAndRows[i + 1]);
        }
        return x;
    }

    static Seattable players(int majority, int... weights) {
        Seattable x = new Seattable();
        for (int w : weights) {
            x.addPlayer(w);
        }
        x.setMajority(majority);
        return x;
    }

    static Seattable undone(Seattable x) {
        x.undo();
        return x;
    }

    /** Types a text: eight bytes a number, six numbers a call. */
    static int type(Seattable x, String text) {
        int length = x.type(0, 0, 0, 0, 0, 0);
        for (int from = 0; from < text.length(); from += 48) {
            long[] six = new long[6];
            for (int i = from; i < text.length() && i < from + 48; i++) {
                int slot = (i - from) / 8;
                six[slot] = six[slot] << 8 | text.charAt(i);
            }
            length = x.type(six[0], six[1], six[2], six[3], six[4], six[5]);
        }
        return length;
    }

    // ---- what is told

    static String read(Seattable x) {
        StringBuilder out = new StringBuilder();
        try {
            while (out.length() < 10000) {
                out.append((char) x.signAt(out.length()));
            }
        } catch (NoSuchElementException e) {
            return out.toString();
        }
        return "without an end";
    }

    static String board(Seattable x) {
        x.write(2);
        return read(x).trim();
    }

    /** The results of the latest deal, each one with a stroke behind it. */
    static String results(Seattable x) {
        x.write(0);
        return read(x).replace("\n", "|");
    }

    static String dealt(Seattable x, int row, int land, int rule, int house) {
        int many = x.deal(row, land, rule, house);
        return many + ": " + results(x);
    }

    static String tables(Seattable x) {
        x.write(1);
        return read(x).replace("\n", "|");
    }

    static String factorOf(Seattable x, int table, boolean isLand, int index) {
        int sign = x.factor(table, isLand, index);
        return sign + " " + board(x);
    }

    static String cut(Seattable x) {
        return x.cutAt(0) + " " + x.cutAt(1) + " " + x.cutAt(2) + " " + x.cutAt(3) + " " + x.cutAt(4);
    }

    /** The votes of all candidates as a round begins, and behind them those that went to nobody. */
    static String votesIn(Seattable x, int round) {
        StringBuilder out = new StringBuilder();
        for (int c = 0; c < x.count(2); c++) {
            x.votesAt(round, c);
            out.append(board(x)).append(' ');
        }
        x.votesAt(round, NONE);
        return out.append(board(x)).toString();
    }

    static String fates(Seattable x) {
        StringBuilder out = new StringBuilder();
        for (int c = 0; c < x.count(2); c++) {
            out.append(c > 0 ? " " : "").append(x.electedAt(c));
        }
        return out.toString();
    }

    static String openList(Seattable x, int numerator, int denominator) {
        StringBuilder out = new StringBuilder();
        for (int place = 0; place < x.count(2); place++) {
            out.append(place > 0 ? " " : "").append(x.openAt(place, numerator, denominator));
        }
        return out.toString();
    }

    static String districts(Seattable x, int districts) {
        StringBuilder out = new StringBuilder();
        for (int block = 0; block < x.count(4); block++) {
            out.append(block > 0 ? " " : "").append(x.districtAt(districts, block));
        }
        return out.toString();
    }

    static String chance(Seattable x, int size) {
        int sign = x.chance(size);
        return sign + " " + board(x);
    }

    static String power(Seattable x, int player, boolean bySwings) {
        int sign = x.power(player, bySwings);
        return sign + " " + board(x);
    }

    static String quota(Seattable x, int row, int land, int house, int index) {
        int sign = x.quota(row, land, house, index);
        return sign + " " + board(x);
    }

    /** The least winning sets, by their order. */
    static String leastSets(Seattable x) {
        StringBuilder out = new StringBuilder();
        for (int i = 0; i < x.count(11); i++) {
            out.append(i > 0 ? " " : "").append(x.leastAt(i));
        }
        return out.toString();
    }
}
