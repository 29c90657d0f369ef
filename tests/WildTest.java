import java.lang.reflect.InvocationTargetException;
import java.lang.reflect.Method;
import java.util.Arrays;
import java.util.Comparator;

/**
 * Full houses and wild numbers: whatever is called in whatever state, a call throws only what the face names for it
 * (and none of the machine's own exceptions), and errors() stays 0.
 */
public final class WildTest {
    private static long seed = 4711;
    private static int wrong;

    private static int random(int bound) {
        seed = seed * 6364136223846793005L + 1442695040888963407L;
        return (int) ((seed >>> 33) % bound);
    }

    private static int number() {
        switch (random(16)) {
            case 0:
                return Integer.MAX_VALUE - random(3);
            case 1:
                return Integer.MIN_VALUE + random(3);
            case 2:
                return -1 - random(3);
            case 3:
                return random(1002);
            case 4:
                return random(1000002);
            case 5:
                return random(42);
            case 6:
                return 123456;
            default:
                return random(7);
        }
    }

    private static Object[] argumentsOf(Method method) {
        Class<?>[] types = method.getParameterTypes();
        Object[] args = new Object[types.length];
        for (int i = 0; i < types.length; i++) {
            if (types[i] == boolean.class) {
                args[i] = random(2) == 0;
            } else if (types[i] == long.class) {
                args[i] = random(3) == 0 ? 0x766f746573203020L : random(3) == 0 ? 0x70617274793bL : 0L;
            } else {
                args[i] = number();
            }
        }
        return args;
    }

    private static void call(Seattable x, Method method, Object[] args) {
        try {
            method.invoke(x, args);
        } catch (InvocationTargetException e) {
            Class<?> thrown = e.getCause().getClass();
            if (!Arrays.asList(method.getExceptionTypes()).contains(thrown)) {
                wrong++;
                System.out.println(method.getName() + Arrays.toString(args) + " threw " + e.getCause());
            }
        } catch (IllegalAccessException e) {
            throw new AssertionError(e);
        }
    }

    private static void fillUp(Seattable x) {
        int most = random(2) == 0 ? 1000000 : 30;
        for (int i = 0; i < 6; i++) {
            x.addParty();
            x.addPlayer(random(101));
        }
        for (int i = 0; i < 5; i++) {
            x.addLand();
            x.setPeople(i, random(most + 1));
        }
        for (int i = 0; i < 30; i++) {
            x.setVotes(i / 5, i % 5, random(3) == 0 ? 0 : random(most + 1));
        }
        for (int i = 0; i < 40; i++) {
            boolean isLand = random(2) == 0;
            int at = random(isLand ? 5 : 6);
            x.setSum(isLand, at, random(8));
        }
        for (int i = 0; i < 9; i++) {
            x.addBlock(random(1001), random(1001), random(1001));
            x.addPerson(random(3), random(3), random(3));
            if (i > 0) {
                x.join(i, random(i));
            }
        }
        x.setCandidates(6);
        for (int i = 0; i < 20; i++) {
            int row = new int[] {0, 123456, 654321, 31, 4, 2516}[random(6)];
            x.addBallot(1 + random(1000), row);
        }
        x.setMajority(1 + random(400));
    }

    private static void check(boolean isRight, String what) {
        if (!isRight) {
            wrong++;
            System.out.println(what);
        }
    }

    /** Full tables: 40 seats for 6 parties and 5 lands; the sums are those of a table that can be. */
    private static void fullTables() {
        for (int run = 0; run < 60; run++) {
            Seattable x = new Seattable();
            int[] parties = new int[6];
            int[] lands = new int[5];
            for (int i = 0; i < 6; i++) {
                x.addParty();
            }
            for (int i = 0; i < 5; i++) {
                x.addLand();
            }
            for (int i = 0; i < 30; i++) {
                int kind = run % 4;
                int votes = kind == 0 ? 900001 + random(99999) : kind == 1 ? 7 : kind == 2 ? 1 + random(3) : random(90);
                boolean isVoted = random(3) > 0;
                x.setVotes(i / 5, i % 5, isVoted || kind == 1 ? votes : 0);
                int seats = isVoted && votes > 0 ? 1 : 0;
                parties[i / 5] += seats;
                lands[i % 5] += seats;
            }
            for (int i = 0; i < 6; i++) {
                x.setSum(false, i, parties[i]);
            }
            for (int i = 0; i < 5; i++) {
                x.setSum(true, i, lands[i]);
            }
            x.setPost(1 + random(1000), 1000);
            int tables = x.fill();
            check(tables > 0 && x.cutAt(0) == 0 && x.errors() == 0, "run " + run + " has no right tables");
            for (int table = 0; table < tables; table += 5) {
                int sum = 0;
                for (int i = 0; i < 30; i++) {
                    sum += x.cellAt(table, i / 5, i % 5) * (i % 5 == run % 5 ? 1 : 0);
                }
                check(sum == lands[run % 5], "run " + run + " misses a sum");
            }
        }
    }

    public static void main(String[] args) {
        Method[] methods = Arrays.stream(Seattable.class.getDeclaredMethods())
                .filter(m -> java.lang.reflect.Modifier.isPublic(m.getModifiers()))
                .sorted(Comparator.comparing(Method::getName)).toArray(Method[]::new);
        check(methods.length == 52, "there are " + methods.length + " methods");
        for (int run = 0; run < 120; run++) {
            Seattable x = new Seattable();
            if (run % 3 > 0) {
                fillUp(x);
            }
            for (int step = 0; step < 360; step++) {
                Method method = methods[random(methods.length)];
                call(x, method, argumentsOf(method));
            }
            check(x.errors() == 0, "errors in run " + run);
        }
        fullTables();
        System.out.println(wrong == 0 ? "WildTest: all calls are as due" : "WildTest: " + wrong + " are not as due");
        if (wrong != 0) {
            System.exit(1);
        }
    }
}
