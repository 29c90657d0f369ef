import java.lang.reflect.InvocationTargetException;
import java.lang.reflect.Method;
import java.util.ArrayList;
import java.util.Arrays;
import java.util.List;

/** Puts the same calls, thousands of them, to Seattable and to Naive, and compares every answer and exception. */
public final class OracleTest {
    /** What later calls of an object answer is free. */
    private static final int MAX_CALLS = 512;
    private static long seed;
    private static int compared;
    private static int wrong;
    private static Seattable real;
    private static Naive naive;
    private static final List<String> calls = new ArrayList<>();

    private static int random(int bound) {
        seed = seed * 6364136223846793005L + 1442695040888963407L;
        return (int) ((seed >>> 33) % bound);
    }

    private static int among(int... numbers) {
        return numbers[random(numbers.length)];
    }

    /** Mostly from least to greatest, now and then just beside or far off. */
    private static int about(int least, int greatest) {
        if (random(25) == 0) {
            return among(least - 1, greatest + 1, Integer.MIN_VALUE, Integer.MAX_VALUE, -1, 0, greatest);
        }
        return least + random(greatest - least + 1);
    }

    private static final class Outcome {
        Object value;
        String thrown = "";
    }

    private static Outcome answer(Object object, String name, Object[] args) {
        Outcome out = new Outcome();
        try {
            for (Method m : object.getClass().getMethods()) {
                if (m.getName().equals(name) && m.getDeclaringClass() == object.getClass()) {
                    m.setAccessible(true);
                    out.value = m.invoke(object, args);
                    return out;
                }
            }
            throw new AssertionError("no method " + name);
        } catch (InvocationTargetException e) {
            if (e.getCause() instanceof AssertionError) {
                throw (AssertionError) e.getCause();
            }
            out.thrown = e.getCause().getClass().getSimpleName();
            return out;
        } catch (IllegalAccessException e) {
            throw new AssertionError(e);
        }
    }

    private static Object call(String name, Object... args) {
        calls.add(name + Arrays.toString(args));
        Outcome got = answer(real, name, args);
        Outcome want = answer(naive, name, args);
        boolean isSame = got.thrown.equals(want.thrown)
                && (got.value == null ? want.value == null : got.value.equals(want.value));
        compared += calls.size() <= MAX_CALLS ? 1 : 0;
        if (!isSame && calls.size() <= MAX_CALLS) {
            wrong++;
            if (wrong <= 5) {
                System.out.println(String.join("\n", calls));
                System.out.println("answered " + got.thrown + got.value + ", due is " + want.thrown + want.value);
            }
        }
        return got.value;
    }

    private static void tellBoard() {
        for (int group = 0; group < 30; group++) {
            Object top = call("digits", false, group);
            Object bottom = call("digits", true, group);
            if (top == null && bottom == null) {
                return;
            }
        }
    }

    private static void tellReport(int what) {
        Object length = call("write", what);
        int signs = length == null ? 0 : (Integer) length;
        for (int i = 0; i <= signs && i < 80; i++) {
            call("signAt", i);
        }
    }

    private static void begin() {
        real = new Seattable();
        naive = new Naive();
        calls.clear();
    }

    private static int votes() {
        return random(4) == 0 ? 0 : random(3) == 0 ? random(1000001) : random(3) == 0 ? 10 * random(4) : random(40);
    }

    private static void shareCall(String name) {
        int bottom = about(1, among(4, 10, 1000));
        call(name, random(4) == 0 ? about(0, 1000) : bottom <= 0 ? 0 : random(Math.min(bottom, 1000) + 1), bottom);
    }

    private static void rowCall(int parties, int lands) {
        switch (random(14)) {
            case 0 -> call("addParty");
            case 1 -> call("addLand");
            case 2, 3, 4 -> call("setVotes", about(0, parties - 1), about(0, lands - 1), votes());
            case 5 -> call("setPeople", about(0, lands - 1), votes());
            case 6 -> {
                int least = random(3) == 0 ? about(0, 5) : 0;
                call("setBounds", random(3) == 0, about(0, 4), least, random(2) == 0 ? about(least, least + 9) : 400);
            }
            case 7 -> shareCall(random(2) == 0 ? "setBar" : "setPost");
            case 8, 9 -> {
                int house = random(8) == 0 ? about(1, 400) : about(1, 12);
                call("deal", about(0, 2), about(0, lands - 1), about(0, 4), house);
                call("seatAt", about(0, 3), about(0, parties - 1));
                call("count", 7);
                if (random(2) == 0) {
                    tellReport(0);
                }
            }
            case 10 -> {
                call("quota", about(0, 2), about(0, lands - 1), about(1, 400), about(0, parties - 1));
                tellBoard();
            }
            case 11 -> call("breaks", about(0, 3), about(0, 2), about(0, lands - 1), about(0, 4), about(1, 25));
            case 12 -> {
                call("setSum", random(2) == 0, about(0, 4), about(0, 12));
                call("tiers", about(0, 4), about(0, 4), random(4) == 0 ? about(1, 400) : about(1, 20), about(0, 5));
            }
            default -> call("undo");
        }
    }

    private static void rows() {
        begin();
        int parties = 1 + random(6);
        int lands = 1 + random(4);
        for (int i = 0; i < parties; i++) {
            call("addParty");
        }
        for (int i = 0; i < lands; i++) {
            call("addLand");
            call("setPeople", i, votes());
        }
        for (int i = 0; i < parties * lands; i++) {
            call("setVotes", i / lands, i % lands, votes());
        }
        for (int step = 0; step < 40; step++) {
            rowCall(parties, lands);
        }
    }

    private static void tables() {
        begin();
        int parties = 1 + random(5);
        int lands = 1 + random(4);
        for (int i = 0; i < parties; i++) {
            call("addParty");
        }
        for (int i = 0; i < lands; i++) {
            call("addLand");
        }
        int kind = random(4);
        for (int i = 0; i < parties * lands; i++) {
            int v = kind == 0 ? among(10, 10, 10, 0) : kind == 1 ? among(10, 20, 30, 40) : kind == 2 ? 10 : votes();
            call("setVotes", i / lands, i % lands, v);
        }
        if (random(2) == 0) {
            shareCall("setPost");
        }
        for (int step = 0; step < 2; step++) {
            int seats = random(1 + (parties * lands > 12 ? 6 : 9));
            int[] byParty = new int[parties];
            int[] byLand = new int[lands];
            for (int k = 0; k < seats; k++) {
                byParty[random(parties)]++;
                byLand[random(lands)]++;
            }
            for (int i = 0; i < parties; i++) {
                call("setSum", false, i, byParty[i]);
            }
            for (int i = 0; i < lands; i++) {
                call("setSum", true, i, byLand[i]);
            }
            if (random(6) == 0) {
                call("setSum", true, about(0, lands - 1), about(0, 3));
            }
            call("fill");
            if (random(3) == 0) {
                call("setVotes", random(parties), random(lands), votes());
                call("setSum", false, 0, random(3));
            }
            Object tables = call("count", 8);
            for (int what = 0; what < 6; what++) {
                call("cutAt", what);
            }
            int many = (Integer) tables;
            for (int table = random(2); table < many; table += 1 + random(40)) {
                for (int i = 0; i <= parties; i++) {
                    call("factor", table, false, i);
                    tellBoard();
                }
                for (int i = 0; i <= lands; i++) {
                    call("factor", table, true, i);
                    tellBoard();
                }
            }
            tellReport(1);
            call("cellAt", about(0, many), about(0, parties), about(0, lands));
            call("errors");
            if (random(5) == 0) {
                call("undo");
                call("cutAt", 0);
            }
        }
    }

    private static int row(int candidates) {
        int row = 0;
        int length = random(candidates + 1);
        int used = 0;
        for (int k = 0; k < length; k++) {
            int c = random(candidates);
            if ((used >> c & 1) == 0 || random(40) == 0) {
                row = row * 10 + c + 1;
                used |= 1 << c;
            }
        }
        return random(40) == 0 ? about(-1, 1000) : row;
    }

    private static void counts() {
        begin();
        int candidates = 2 + random(5);
        call("setCandidates", candidates);
        int many = 1 + random(20);
        int most = among(1, 3, 10, 1000);
        for (int i = 0; i < many; i++) {
            call("addBallot", about(1, most), row(candidates));
        }
        for (int step = 0; step < 10; step++) {
            call("elect", about(1, Math.min(candidates, 5)), about(0, 2), about(0, 2));
            int rounds = (Integer) call("count", 9);
            for (int c = 0; c <= candidates; c++) {
                call("electedAt", c);
            }
            for (int round = 0; round <= rounds; round++) {
                for (int c = -1; c <= candidates; c++) {
                    call("votesAt", round, c);
                    tellBoard();
                }
            }
            tellReport(2);
            call("errors");
            call("openAt", about(0, candidates - 1), about(0, 4), about(1, 10));
            call("margin", about(0, candidates - 1), about(0, candidates - 1));
            if (random(4) == 0) {
                call("addBallot", about(1, most), row(candidates));
            }
            if (random(8) == 0) {
                call("undo");
            }
        }
        for (int c = -1; candidates < 6 && c <= candidates; c++) {
            call("agendasFor", c);
            call("agendaFor", c);
        }
        for (int i = 0; i < 10; i++) {
            int agenda = 0;
            int used = 0;
            while (Integer.bitCount(used) < candidates) {
                int c = random(candidates);
                agenda = (used >> c & 1) == 0 ? agenda * 10 + c + 1 : agenda;
                used |= 1 << c;
            }
            call("agenda", random(10) == 0 ? row(candidates) : agenda);
        }
    }

    private static void districts() {
        begin();
        int blocks = random(8);
        int most = among(1, 5, 1000);
        for (int i = 0; i < blocks; i++) {
            call("addBlock", about(0, most), about(0, most), about(0, most));
        }
        int joins = random(blocks * 2 + 1);
        for (int i = 0; i < joins; i++) {
            call("join", about(0, blocks), about(0, blocks));
            if (i > 0) {
                call("join", i % (blocks + 1), (i - 1) % (blocks + 1));
            }
        }
        for (int step = 0; step < 3; step++) {
            for (int d = 1; d <= 3; d++) {
                for (int what = 0; what <= 4; what++) {
                    call("maps", d, what);
                }
                call("tilt", about(1, 3), random(2) == 0 ? about(0, 9000) : about(0, 2 * most), random(2) == 0);
                for (int block = 0; block <= blocks; block++) {
                    call("districtAt", d, block);
                }
            }
            call(random(2) == 0 ? "undo" : "errors");
        }
    }

    private static void panels() {
        begin();
        int persons = random(among(4, 7, 10));
        for (int i = 0; i < persons; i++) {
            call("addPerson", about(0, 2), about(0, 2), about(0, 2));
        }
        for (int step = 0; step < 6; step++) {
            int size = about(1, Math.max(1, persons - 1));
            call("panels", size, about(-1, Math.max(0, persons - 1)));
            call("chance", size);
            tellBoard();
            call("want", about(0, 2), about(0, 2), random(3) == 0 ? -1 : about(0, 3));
            if (random(3) == 0) {
                call("undo");
            }
        }
    }

    private static void weights() {
        begin();
        int players = random(7);
        int most = among(2, 5, 12, 100);
        for (int i = 0; i < players; i++) {
            call("addPlayer", about(0, most));
        }
        for (int step = 0; step < 5; step++) {
            call("setMajority", random(4) == 0 ? about(1, 600) : about(1, Math.max(1, players * most * 2 / 3)));
            if (players < 6 || random(8) == 0) {
                call("otherwise");
            }
            int sets = (Integer) call("count", 11);
            for (int i = -1; i <= sets; i++) {
                call("leastAt", i);
            }
            for (int p = 0; p <= players; p++) {
                call("power", p, random(2) == 0);
                tellBoard();
            }
            call("errors");
            if (random(4) == 0) {
                call("undo");
            }
        }
    }

    private static String number() {
        return random(12) == 0 ? among(0, 1) == 0 ? "000" + random(3) : "1" + "0".repeat(6 + random(30))
                : "" + (random(4) == 0 ? among(40, 41, 1000, 1001, 1000000, 1000001, 7, 999999) : random(4));
    }

    private static String token() {
        return switch (random(12)) {
            case 0 -> "party";
            case 1 -> "land";
            case 2 -> among(0, 1) == 0 ? "votes" : "people";
            case 3 -> among(0, 1) == 0 ? "sum" : "bar";
            case 4 -> "post";
            case 5, 6 -> ";";
            case 7 -> among(0, 1) == 0 ? "partys" : "lan";
            case 8 -> among(0, 1) == 0 ? "A" : "" + (char) (128 + random(128));
            default -> number();
        };
    }

    private static String statement() {
        return switch (random(9)) {
            case 0, 1 -> "party ;";
            case 2, 3 -> "land;";
            case 4 -> "votes " + number() + "\n" + number() + " " + number() + ";";
            case 5 -> "people " + number() + " " + number() + ";";
            case 6 -> "sum " + (random(2) == 0 ? "party" : "land ") + number() + " " + number() + " ;";
            case 7 -> "bar " + number() + " " + number() + ";";
            default -> "post" + number() + " " + number() + ";";
        };
    }

    private static void typeText(String text) {
        long[] six = new long[6];
        for (int from = 0; from < text.length(); from += 40) {
            Arrays.fill(six, 0);
            for (int i = from; i < text.length() && i < from + 40; i++) {
                int slot = (i - from) / 8 + (i - from == 39 ? 1 : 0);
                six[slot] = six[slot] << 8 | text.charAt(i);
            }
            call("type", six[0], six[1], six[2], six[3], six[4], six[5]);
        }
    }

    private static void texts() {
        begin();
        for (int step = 0; step < 12; step++) {
            StringBuilder text = new StringBuilder();
            int many = random(6);
            for (int i = 0; i < many; i++) {
                text.append(random(7) == 0 ? token() + (random(2) == 0 ? " " : "") : statement());
            }
            typeText(text.toString());
            call("errorKind");
            call("errorPlace");
            if (call("load") == null && random(3) > 0) {
                call("clearText");
            }
            for (int what = 0; what <= 12; what++) {
                call("count", what);
            }
            for (int p = 0; p < 3; p++) {
                call("quota", 0, 0, 7, p);
                tellBoard();
                call("deal", 0, 0, 0, 7);
                tellReport(0);
                call("undo");
            }
            call("setSum", random(2) == 0, 0, 0);
            call("setPeople", 0, 0);
            if (random(4) == 0) {
                call("undo");
            }
        }
        typeText("x".repeat(40 * random(18)));
        call("errorKind");
    }

    public static void main(String[] args) {
        int scale = args.length > 0 ? Integer.parseInt(args[0]) : 1;
        seed = args.length > 1 ? Long.parseLong(args[1]) : 20261119;
        for (int i = 0; i < 150 * scale && wrong == 0; i++) {
            rows();
            texts();
            weights();
            counts();
            panels();
            districts();
        }
        for (int i = 0; i < 240 * scale && wrong == 0; i++) {
            tables();
        }
        System.out.println("OracleTest: " + (wrong == 0 ? "all " + compared + " answers are as due" : "wrong answers"));
        if (wrong != 0) {
            System.exit(1);
        }
    }
}
