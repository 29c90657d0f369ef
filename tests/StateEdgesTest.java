import java.util.NoSuchElementException;

/** The edges of section 1 and of the promises 48 to 53: the board, acts, refused calls, reports and counts. */
public final class StateEdgesTest extends Checks {

    private interface Step {
        Object take(Seattable x);
    }

    /** A house in which something of everything stands; its latest act is a count. */
    private static Seattable full() {
        Seattable x = house(3, 2);
        type(x, "votes 0 0 60;votes 1 0 30;votes 2 0 10;votes 0 1 20;votes 1 1 20;people 0 7;people 1 9;"
                + "sum party 0 2;sum party 1 1;sum land 0 2;sum land 1 1;bar 1 50;post 2 3;");
        x.load();
        x.setBounds(false, 2, 1, 30);
        x.setBounds(true, 0, 0, 3);
        x.setCandidates(4);
        x.addBallot(5, 123);
        x.addBallot(4, 31);
        x.addBallot(2, 42);
        for (int i = 0; i < 4; i++) {
            x.addBlock(i + 1, 2 * i, 3);
            x.addPerson(i % 3, i % 2, 0);
        }
        x.join(0, 1);
        x.join(1, 2);
        x.join(2, 3);
        x.want(0, 0, 1);
        x.addPlayer(3);
        x.addPlayer(2);
        x.addPlayer(1);
        x.setMajority(4);
        x.deal(0, 0, 0, 9);
        x.fill();
        x.elect(2, 0, 0);
        x.quota(0, 0, 7, 1);
        x.write(0);
        type(x, "land;votes 0 0 5");
        return x;
    }

    private static String boardDigits(Seattable x) {
        StringBuilder out = new StringBuilder();
        for (int part = 0; part < 2; part++) {
            int group = 0;
            try {
                for (; group < 20; group++) {
                    out.append(x.digits(part == 1, group)).append(',');
                }
            } catch (NoSuchElementException e) {
                out.append(group).append('/');
            }
        }
        return out.toString();
    }

    /** All that can be asked of a house but its board: what was written first, as asking for the rest writes. */
    private static String seen(Seattable x) {
        StringBuilder out = new StringBuilder(read(x));
        out.append(x.type(0, 0, 0, 0, 0, 0)).append(' ').append(x.errorKind()).append(' ').append(x.errorPlace());
        for (int what = 0; what < 12; what++) {
            out.append(' ').append(what == 10 ? 0 : x.count(what));
        }
        out.append('|').append(results(x)).append(tables(x)).append(cut(x)).append('|');
        for (int round = 0; round < x.count(9); round++) {
            out.append(votesIn(x, round)).append('|');
        }
        out.append(x.count(9) > 0 ? fates(x) : "no count").append('|');
        out.append(x.count(8) > 0 ? factorOf(x, 0, false, 1) + factorOf(x, 0, true, 1) : "no table").append('|');
        for (int row = 0; row < 3; row++) {
            for (int i = 0; i < x.count(row == 2 ? 1 : 0); i++) {
                out.append(quota(x, row, 0, 9, i)).append(' ');
            }
        }
        out.append(x.tiers(0, 0, 3, 0)).append(x.tiers(0, 0, 3, 1)).append('|');
        out.append(x.maps(2, 0)).append(x.maps(2, 1)).append(x.maps(2, 2)).append(x.tilt(2, 9000, true)).append('|');
        out.append(x.panels(2, NONE)).append(x.panels(2, 0)).append(chance(x, 2)).append('|');
        out.append(leastSets(x)).append(x.otherwise()).append(power(x, 0, true)).append('|');
        out.append(x.margin(0, 1)).append(x.margin(2, 0)).append(x.agendaFor(0)).append(openList(x, 1, 3));
        return out.append('|').append(values(x)).toString();
    }

    /** What was set, as the calls that set it tell: they are acts, so this comes last. */
    private static String values(Seattable x) {
        StringBuilder out = new StringBuilder();
        for (int row = 0; row < 3; row += 2) {
            for (int house = 1; house < 60; house += 19) {
                out.append(dealt(x, row, 0, 0, house)).append(' ');
            }
        }
        for (int land = 0; land < x.count(1); land++) {
            out.append(x.setPeople(land, 0)).append(' ').append(x.setSum(true, land, 0)).append(' ');
            for (int party = 0; party < x.count(0); party++) {
                out.append(x.setVotes(party, land, 0)).append(' ');
            }
        }
        for (int party = 0; party < x.count(0); party++) {
            out.append(x.setSum(false, party, 0)).append(' ');
        }
        for (int k = 0; k < 9; k++) {
            out.append(x.want(k / 3, k % 3, 1)).append(' ');
        }
        return out.append(x.setMajority(1)).append(' ').append(x.setCandidates(2)).toString();
    }

    /** How the counts go back, act by act. */
    private static String history(Seattable x) {
        StringBuilder out = new StringBuilder();
        for (int left = x.count(10); left > 0; left--) {
            out.append(x.undo()).append(':');
            for (int what = 0; what < 10; what++) {
                out.append(x.count(what)).append(what < 9 ? "," : " ");
            }
        }
        return out.append(thrown(() -> x.undo())).toString();
    }

    private static void refuses(String exception, Step step) {
        Seattable x = full();
        String board = boardDigits(x);
        is(exception, thrown(() -> step.take(x)));
        is(board, boardDigits(x));
        is(seen(full()), seen(x));
        Seattable y = full();
        thrown(() -> step.take(y));
        is(history(full()), history(y));
    }

    private static Object nothing(Runnable call) {
        call.run();
        return "nothing";
    }

    private static void refusedCalls() {
        says("section 1: a call that throws an exception changes nothing");
        refuses(BOUNDS, x -> x.setVotes(3, 0, 5));
        refuses(BOUNDS, x -> x.setVotes(0, 2, 5));
        refuses(ARGUMENT, x -> x.setVotes(0, 0, 1000001));
        refuses(BOUNDS, x -> x.setPeople(2, 5));
        refuses(ARGUMENT, x -> x.setPeople(0, -1));
        refuses(BOUNDS, x -> nothing(() -> x.setBounds(true, 2, 0, 1)));
        refuses(ARGUMENT, x -> nothing(() -> x.setBounds(true, 1, 0, 401)));
        refuses(ARGUMENT, x -> nothing(() -> x.setBounds(false, 1, 5, 4)));
        refuses(BOUNDS, x -> x.setSum(false, 3, 1));
        refuses(ARGUMENT, x -> x.setSum(true, 1, 41));
        refuses(ARGUMENT, x -> nothing(() -> x.setBar(1, 1001)));
        refuses(ARGUMENT, x -> nothing(() -> x.setPost(3, 2)));
        refuses(STATE, x -> x.load());
        refuses(BOUNDS, x -> x.deal(1, 2, 0, 5));
        refuses(ARGUMENT, x -> x.deal(0, 0, 5, 5));
        refuses(ARGUMENT, x -> x.deal(0, 0, 0, 401));
        refuses(BOUNDS, x -> x.quota(0, 0, 5, 3));
        refuses(ARGUMENT, x -> x.quota(0, 0, 0, 0));
        refuses(BOUNDS, x -> x.breaks(0, 1, 2, 0, 5));
        refuses(ARGUMENT, x -> x.breaks(1, 2, 0, 0, 5));
        refuses(BOUNDS, x -> x.factor(60, true, 0));
        refuses(BOUNDS, x -> x.factor(0, true, 2));
        refuses(ARGUMENT, x -> x.tiers(0, 0, 0, 0));
        refuses(BOUNDS, x -> x.tiers(0, 0, 1, 5));
        refuses(ARGUMENT, x -> x.setCandidates(7));
        refuses(ARGUMENT, x -> x.addBallot(1, 15));
        refuses(ARGUMENT, x -> x.elect(4, 0, 0));
        refuses(ARGUMENT, x -> x.elect(1, 0, 3));
        refuses(BOUNDS, x -> x.votesAt(9, 0));
        refuses(BOUNDS, x -> x.votesAt(0, 4));
        refusedGroupCalls();
    }

    private static void refusedGroupCalls() {
        refuses(ARGUMENT, x -> x.addBlock(1001, 0, 0));
        refuses(BOUNDS, x -> x.join(0, 4));
        refuses(ARGUMENT, x -> x.join(1, 1));
        refuses(ARGUMENT, x -> x.addPerson(0, 0, 3));
        refuses(ARGUMENT, x -> x.want(0, 0, 10));
        refuses(ARGUMENT, x -> x.chance(10));
        refuses(ARGUMENT, x -> x.addPlayer(101));
        refuses(ARGUMENT, x -> x.setMajority(601));
        refuses(BOUNDS, x -> x.power(3, true));
        refuses(ELEMENT, x -> x.digits(false, 1));
        refuses(ARGUMENT, x -> x.write(3));
        says("section 1: also one that throws as nothing more can be added");
        Seattable most = house(6, 5);
        for (int i = 0; i < 9; i++) {
            most.addBlock(1, 1, 1);
            most.addPerson(1, 1, 1);
        }
        for (int i = 0; i < 6; i++) {
            most.addPlayer(1);
        }
        for (int i = 0; i < 20; i++) {
            most.addBallot(1, 1);
        }
        most.setPost(0, 1);
        isRefused(STATE, () -> most.addParty());
        isRefused(STATE, () -> most.addLand());
        isRefused(STATE, () -> most.addBlock(1, 1, 1));
        isRefused(STATE, () -> most.addPerson(1, 1, 1));
        isRefused(STATE, () -> most.addPlayer(1));
        isRefused(STATE, () -> most.addBallot(1, 1));
        isRefused(STATE, () -> most.fill());
        is(11, most.undo());
        is(20, most.count(3));
        is(10, most.undo());
        is(19, most.count(3));
        is(6 + 5 + 9 + 9 + 6, most.count(0) + most.count(1) + most.count(4) + most.count(5) + most.count(6));
    }

    private static void asks(Step step) {
        Seattable x = full();
        Object told = step.take(x);
        is(told, step.take(x));
        is(seen(full()), seen(x));
        Seattable y = full();
        step.take(y);
        is(history(full()), history(y));
    }

    private static void questions() {
        says("section 1: questions change nothing but the board");
        asks(x -> x.errorKind());
        asks(x -> x.errorPlace());
        asks(x -> x.seatAt(0, 0));
        for (int row = 0; row < 3; row++) {
            int asked = row;
            asks(x -> x.quota(asked, 0, 9, 0));
        }
        for (int law = 0; law < 4; law++) {
            int asked = law;
            asks(x -> x.breaks(asked, 0, 0, 3, 20));
            asks(x -> x.breaks(asked, 1, 1, 0, 20));
        }
        asks(x -> x.cellAt(0, 0, 0));
        asks(x -> x.factor(0, true, 0));
        asks(x -> x.cutAt(0));
        asks(x -> x.tiers(3, 1, 5, 0));
        asks(x -> x.tiers(0, 0, 5, 1));
        asks(x -> x.tiers(0, 0, 5, 2));
        asks(x -> x.electedAt(0));
        asks(x -> x.votesAt(1, 2));
        asks(x -> x.openAt(0, 1, 2));
        asks(x -> x.maps(3, 3));
        asks(x -> x.districtAt(3, 3));
        asks(x -> x.tilt(3, 5, false));
        asks(x -> x.panels(2, 1));
        asks(x -> x.chance(2));
        asks(x -> x.power(0, false));
        asks(x -> x.leastAt(0));
        asks(x -> x.otherwise());
        asks(x -> x.margin(0, 1));
        asks(x -> x.agenda(4321));
        asks(x -> x.agendaFor(3));
        asks(x -> x.agendasFor(0));
        asks(x -> x.digits(true, 0));
        asks(x -> x.signAt(0));
        asks(x -> x.count(11));
        asks(x -> x.errors());
        says("section 1: and those that tell no fraction leave the board, too");
        Seattable x = full();
        String board = boardDigits(x);
        x.errors();
        x.breaks(0, 0, 0, 3, 20);
        x.tiers(0, 0, 5, 0);
        x.otherwise();
        x.margin(0, 1);
        x.openAt(0, 1, 2);
        x.fill();
        x.elect(1, 0, 0);
        x.write(2);
        is(board, boardDigits(x));
    }

    /** An act is one more that can be taken back; taken back, all is as it was. */
    private static void acts(Step step) {
        Seattable few = full();
        for (int i = 0; i < 12; i++) {
            few.undo();
        }
        step.take(few);
        is(1, few.count(10));
        Seattable x = full();
        step.take(x);
        is(12, x.count(10));
        is(11, x.undo());
        is(seen(full()), seen(x));
    }

    private static void allActs() {
        says("section 1: acts are the methods that say so; to undo takes the latest one back: all is as it was");
        acts(x -> x.addParty());
        acts(x -> x.addLand());
        acts(x -> x.setVotes(0, 0, 61));
        acts(x -> x.setPeople(0, 8));
        acts(x -> nothing(() -> x.setBounds(false, 0, 3, 5)));
        acts(x -> nothing(() -> x.setBounds(true, 1, 3, 5)));
        acts(x -> x.setSum(false, 0, 3));
        acts(x -> x.setSum(true, 0, 3));
        acts(x -> nothing(() -> x.setBar(1, 3)));
        acts(x -> nothing(() -> x.setPost(1, 3)));
        acts(x -> x.deal(2, 0, 1, 8));
        acts(x -> x.deal(0, 0, 0, 400));
        acts(x -> x.fill());
        acts(x -> x.setCandidates(3));
        acts(x -> x.addBallot(9, 321));
        acts(x -> x.addBlock(9, 9, 9));
        acts(x -> x.addPerson(2, 2, 2));
        acts(x -> x.want(0, 1, 1));
        acts(x -> x.addPlayer(9));
        acts(x -> x.setMajority(5));
        says("section 1: also acts that change nothing");
        acts(x -> x.setVotes(0, 0, 60));
        acts(x -> x.setMajority(1));
        says("section 1: a count and a new pair of neighbours (of the house with all acts)");
        Seattable x = full();
        x.elect(1, 1, 1);
        is(11, x.undo());
        is(seen(full()), seen(x));
        Seattable y = full();
        y.join(0, 3);
        is(11, y.undo());
        is(seen(full()), seen(y));
        says("section 1: what is no act");
        Seattable z = new Seattable();
        z.type('a', 0, 0, 0, 0, 0);
        z.clearText();
        z.write(2);
        is(0, z.count(10));
    }

    private static void undoing() {
        Seattable x = house(1, 1);
        says("section 1: up to the 12 latest ones; 51: returns how many can be taken back then");
        for (int i = 1; i <= 30; i++) {
            x.setVotes(0, 0, i);
            is(i + 2 < 12 ? i + 2 : 12, x.count(10));
        }
        for (int i = 11; i >= 0; i--) {
            is(i, x.undo());
        }
        is("1 18/1", quota(x, 0, 0, 18, 0));
        says("51: IllegalStateException if none is remembered");
        isRefused(STATE, () -> x.undo());
        is(18, x.setVotes(0, 0, 5));
        is(0, x.undo());
        isRefused(STATE, () -> x.undo());
        isRefused(STATE, () -> new Seattable().undo());
        says("section 1: acts behind an undo take the place of those taken back");
        for (int i = 100; i < 108; i++) {
            x.setVotes(0, 0, i);
        }
        for (int i = 0; i < 3; i++) {
            x.undo();
        }
        for (int i = 200; i < 212; i++) {
            x.setVotes(0, 0, i);
        }
        is(12, x.count(10));
        for (int i = 11; i >= 1; i--) {
            is(i, x.undo());
        }
        is(200, x.setVotes(0, 0, 1));
        x.undo();
        is(0, x.undo());
        is(104, x.setVotes(0, 0, 1));
        says("51: 12 acts are just enough for all to be remembered");
        Seattable y = new Seattable();
        for (int i = 0; i < 6; i++) {
            y.addParty();
            y.addPlayer(i);
        }
        for (int i = 11; i >= 0; i--) {
            is(i, y.undo());
        }
        is(0, y.count(0) + y.count(6));
        says("section 1: but the board, the text and what was written");
        Seattable z = votes(3, 5);
        z.deal(0, 0, 3, 8);
        z.write(0);
        z.quota(0, 0, 1, 0);
        type(z, "party;");
        z.undo();
        z.undo();
        is("3 5\n", read(z));
        is("3/8", board(z));
        is(6, z.clearText());
    }

    private static void boards() {
        says("section 1: in lowest terms, the denominator above 0");
        Seattable x = votes(6, 8);
        is("1 3/1", quota(x, 0, 0, 7, 0));
        is("1 3/7", quota(x, 0, 0, 1, 0));
        is("0 0/1", quota(votes(0, 8), 0, 0, 7, 0));
        says("48: 0 for the lowest nine digits, 1 for the next nine");
        Seattable y = votes(0, 0);
        y.addLand();
        y.addLand();
        y.addLand();
        y.addLand();
        for (int land = 0; land < 5; land++) {
            y.setVotes(0, land, land < 4 ? 1000000 : 999999);
        }
        y.setVotes(1, 0, 2);
        is("1 1999999600/5000001", quota(y, 0, 0, 400, 0));
        is(999999600, y.digits(false, 0));
        is(1, y.digits(false, 1));
        isRefused(ELEMENT, () -> y.digits(false, 2));
        is(5000001, y.digits(true, 0));
        isRefused(ELEMENT, () -> y.digits(true, 1));
        says("48: ten digits, the lower ones 0; they are written, too");
        Seattable ten = house(2, 3);
        ten.setVotes(0, 0, 1000000);
        ten.setVotes(0, 1, 1000000);
        ten.setVotes(0, 2, 500000);
        ten.setVotes(1, 0, 1);
        is("1 1000000000/2500001", quota(ten, 0, 0, 400, 0));
        is(0, ten.digits(false, 0));
        is(1, ten.digits(false, 1));
        isRefused(ELEMENT, () -> ten.digits(false, 2));
        says("48: nine digits are one group");
        Seattable nine = house(2, 4);
        nine.setVotes(0, 0, 1000000);
        nine.setVotes(0, 1, 1000000);
        nine.setVotes(0, 2, 1000000);
        nine.setVotes(0, 3, 3003);
        nine.setVotes(1, 0, 1);
        is("1 999999999/3003004", quota(nine, 0, 0, 333, 0));
        is(999999999, nine.digits(false, 0));
        isRefused(ELEMENT, () -> nine.digits(false, 1));
        says("48: NoSuchElementException if group is less than 0");
        isRefused(ELEMENT, () -> nine.digits(false, -1));
        isRefused(ELEMENT, () -> nine.digits(true, -1));
        isRefused(ELEMENT, () -> nine.digits(true, LOW));
        isRefused(ELEMENT, () -> nine.digits(false, FAR));
        says("48: a 0 has one group");
        Seattable zero = new Seattable();
        is(0, zero.digits(false, 0));
        isRefused(ELEMENT, () -> zero.digits(false, 1));
        is(1, zero.digits(true, 0));
        isRefused(ELEMENT, () -> zero.digits(true, 1));
        says("48: a refused call leaves the board");
        is("999999999/3003004", board(nine));
    }

    private static void longFractions() {
        says("48: long fractions of a count, group by group");
        Seattable x = ballots(6, 937, 124356, 941, 163254, 948, 631425, 997, 154326, 984, 426351, 985, 152634,
                970, 153462, 984, 146325, 932, 156342, 930, 152436, 933, 142365, 991, 146253, 966, 143256,
                910, 125634, 984, 542631, 949, 152634, 908, 135462);
        is(5, x.elect(5, 0, 0));
        is("1 4 0 3 2 5", fates(x));
        x.votesAt(4, 2);
        String told = board(x);
        is("302006631755342074126785759200715052438296173715000471877692590531149/"
                + "147827179851535986403418565479361926695997891961647419683208091952", told);
        for (int part = 0; part < 2; part++) {
            boolean isBottom = part == 1;
            String number = told.split("/")[part];
            int groups = (number.length() + 8) / 9;
            for (int group = 0; group < groups; group++) {
                int end = number.length() - 9 * group;
                is(Integer.parseInt(number.substring(Math.max(0, end - 9), end)), x.digits(isBottom, group));
            }
            isRefused(ELEMENT, () -> x.digits(isBottom, groups));
        }
        is(told.length() + 1, x.write(2));
        is(0, x.errors());
    }

    private static void reports() {
        Seattable x = votes(1, 0);
        says("49: nothing was dealt out or filled: no bytes");
        is(0, x.write(0));
        is(0, x.write(1));
        says("49: 0 the results, each one in a line, the seats with a blank between");
        x.deal(0, 0, 0, 400);
        is(6, x.write(0));
        is("400 0\n", read(x));
        Seattable alike = votes(1, 1);
        alike.deal(0, 0, 0, 21);
        is(12, alike.write(0));
        is("11 10\n10 11\n", read(alike));
        Seattable lands = people(4);
        lands.deal(2, 0, 0, 10);
        is(3, lands.write(0));
        is("10\n", read(lands));
        says("49: as many as there were then");
        lands.addLand();
        is(3, lands.write(0));
        says("49: 1 the tables, each party in a line, a line with - behind each table");
        Seattable y = table(new int[][] {{7, 7, 0}, {7, 7, 0}}, new int[] {1, 1}, new int[] {1, 1, 0});
        y.fill();
        is(2 * 14, y.write(1));
        is("1 0 0\n0 1 0\n-\n0 1 0\n1 0 0\n-\n", read(y));
        y.addParty();
        y.addLand();
        is(28, y.write(1));
        says("49: 2 the fraction on the board, as 3/4, one line");
        is(4, y.write(2));
        is("0/1\n", read(y));
        y.quota(0, 0, 40, 0);
        is(5, y.write(2));
        is("20/1\n", read(y));
        says("49: in place of what was written before, also if nothing is");
        x.setVotes(0, 0, 0);
        x.deal(0, 0, 0, 1);
        is(0, x.write(0));
        isRefused(ELEMENT, () -> x.signAt(0));
        says("49: what 0 to 2");
        isRefused(ARGUMENT, () -> y.write(-1));
        isRefused(ARGUMENT, () -> y.write(3));
        isRefused(ARGUMENT, () -> y.write(LOW));
        isRefused(ARGUMENT, () -> y.write(FAR));
        is("20/1\n", read(y));
        says("50: NoSuchElementException if there is none");
        is((int) '2', y.signAt(0));
        is(10, y.signAt(4));
        isRefused(ELEMENT, () -> y.signAt(5));
        isRefused(ELEMENT, () -> y.signAt(-1));
        isRefused(ELEMENT, () -> y.signAt(FAR));
        isRefused(ELEMENT, () -> y.signAt(LOW));
        isRefused(ELEMENT, () -> new Seattable().signAt(0));
        says("50: of what was written last, also if the board is another one since");
        y.quota(0, 0, 1, 1);
        is("20/1\n", read(y));
        says("49: no act");
        is(4, lands.count(10));
    }

    private static void counts() {
        says("52: what 0 to 11");
        Seattable x = full();
        int[] due = {3, 2, 4, 3, 4, 4, 3, 1, 1, 2, 12, 2};
        for (int what = 0; what < 12; what++) {
            is(due[what], x.count(what));
        }
        isRefused(ARGUMENT, () -> x.count(-1));
        isRefused(ARGUMENT, () -> x.count(12));
        isRefused(ARGUMENT, () -> x.count(LOW));
        isRefused(ARGUMENT, () -> x.count(FAR));
        says("52: 7 for the results of the latest deal (0 without one)");
        Seattable y = votes(5, 5);
        is(0, y.count(7));
        y.deal(0, 0, 0, 1);
        is(2, y.count(7));
        y.deal(2, 0, 0, 1);
        is(0, y.count(7));
        says("52: 8 for the tables of the latest fill");
        is(0, y.count(8));
        y.fill();
        is(1, y.count(8));
        y.setSum(false, 0, 1);
        y.fill();
        is(0, y.count(8));
        says("52: 9 for the rounds of the latest count");
        is(0, y.count(9));
        y.addBallot(1, 0);
        is(2, y.elect(1, 0, 0));
        is(2, y.count(9));
        says("52: 10 for the acts that are remembered");
        is(3, votes(5).count(10));
        is(0, new Seattable().count(10));
        says("52: 11 for the least winning sets");
        is(0, new Seattable().count(11));
        is(20, players(3, 1, 1, 1, 1, 1, 1).count(11));
        is(0, players(3, 1, 1).count(11));
        says("53: always 0");
        is(0, x.errors());
        is(0, y.errors());
        is(0, new Seattable().errors());
        is(0, players(3, 1, 1).errors());
        is(0, players(2, 1, 0, 1).errors());
    }

    private static void manyCalls() {
        says("an object is used for 512 calls: the last one still answers");
        Seattable x = votes(30, 10, 10);
        x.setSum(false, 0, 2);
        x.setSum(true, 0, 2);
        x.addBallot(3, 12);
        x.addBallot(2, 21);
        x.addPerson(0, 0, 0);
        x.addPerson(1, 1, 1);
        for (int calls = 7 + 6; calls < 511; calls += 6) {
            is(calls == 13 ? 30 : calls - 6, x.setVotes(0, 0, calls));
            x.deal(0, 0, 0, 400);
            is(1, x.fill());
            is(1, x.elect(1, 0, 1));
            is(1, x.chance(1));
            is(0, x.errors());
        }
        // 505, 10 and 10 votes for 400 seats: 384.76, 7.62 and 7.62.
        is(384, x.seatAt(0, 0));
        says("two houses do not touch each other");
        Seattable one = new Seattable();
        Seattable other = new Seattable();
        one.addParty();
        is(0, other.count(0));
        is(0, other.addParty());
    }

    public static void main(String[] args) {
        refusedCalls();
        questions();
        allActs();
        undoing();
        boards();
        longFractions();
        reports();
        counts();
        manyCalls();
        finish("StateEdgesTest");
    }
}
