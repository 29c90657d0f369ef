import java.math.BigInteger;
import java.util.ArrayList;
import java.util.Arrays;
import java.util.Collections;
import java.util.List;
import java.util.NoSuchElementException;
import java.util.TreeSet;
import java.util.regex.Matcher;
import java.util.regex.Pattern;

/**
 * The document once more, in its slowest and plainest form, with library numbers and by trying all that can be:
 * OracleTest puts the same calls to this and to Seattable. Only for small houses.
 */
final class Naive {
    /** An exact fraction. */
    static final class Q implements Comparable<Q> {
        static final Q ZERO = new Q(0, 1);
        static final Q ONE = new Q(1, 1);
        final BigInteger n;
        final BigInteger d;

        Q(BigInteger n, BigInteger d) {
            BigInteger g = n.gcd(d);
            if (d.signum() < 0) {
                g = g.negate();
            }
            this.n = n.divide(g);
            this.d = d.divide(g);
        }

        Q(long n, long d) {
            this(BigInteger.valueOf(n), BigInteger.valueOf(d));
        }

        Q plus(Q o) {
            return new Q(n.multiply(o.d).add(o.n.multiply(d)), d.multiply(o.d));
        }

        Q minus(Q o) {
            return new Q(n.multiply(o.d).subtract(o.n.multiply(d)), d.multiply(o.d));
        }

        Q times(Q o) {
            return new Q(n.multiply(o.n), d.multiply(o.d));
        }

        Q by(Q o) {
            return new Q(n.multiply(o.d), d.multiply(o.n));
        }

        public int compareTo(Q o) {
            return n.multiply(o.d).compareTo(o.n.multiply(d));
        }
    }

    private static final class State implements Cloneable {
        int parties, lands, candidates = 2, majority = 1;
        int[][] votes = new int[6][5];
        int[] people = new int[5];
        int[][] least = new int[2][6], greatest = new int[2][6], sums = new int[2][6];
        int barN = 0, barD = 1, postN = 1, postD = 2;
        List<int[]> results = new ArrayList<>();
        int dealtSize;
        List<int[][]> tables = new ArrayList<>();
        int fillParties, fillLands;
        int[][] fillVotes = new int[6][5];
        int[][] fillSums = new int[2][6];
        Q fillPost = Q.ONE;
        int[] cut = new int[5];
        List<int[]> ballots = new ArrayList<>();
        List<Q[]> rounds = new ArrayList<>();
        int[] fates = new int[6];
        List<int[]> blocks = new ArrayList<>();
        boolean[][] near = new boolean[9][9];
        List<int[]> persons = new ArrayList<>();
        int[][] wants = {{-1, -1, -1}, {-1, -1, -1}, {-1, -1, -1}};
        List<Integer> weights = new ArrayList<>();

        State copy() {
            try {
                State s = (State) clone();
                s.votes = deep(votes);
                s.people = people.clone();
                s.least = deep(least);
                s.greatest = deep(greatest);
                s.sums = deep(sums);
                s.ballots = new ArrayList<>(ballots);
                s.blocks = new ArrayList<>(blocks);
                s.persons = new ArrayList<>(persons);
                s.weights = new ArrayList<>(weights);
                s.wants = deep(wants);
                s.near = new boolean[9][];
                for (int i = 0; i < 9; i++) {
                    s.near[i] = near[i].clone();
                }
                return s;
            } catch (CloneNotSupportedException e) {
                throw new AssertionError(e);
            }
        }

        static int[][] deep(int[][] a) {
            int[][] b = new int[a.length][];
            for (int i = 0; i < a.length; i++) {
                b[i] = a[i].clone();
            }
            return b;
        }
    }

    private State s = new State();
    private final ArrayList<State> past = new ArrayList<>();
    private Q board = Q.ZERO;
    private String text = "";
    private String report = "";

    Naive() {
        Arrays.fill(s.greatest[0], 400);
        Arrays.fill(s.greatest[1], 400);
    }

    private void act() {
        past.add(s);
        if (past.size() > 12) {
            past.remove(0);
        }
        s = s.copy();
    }

    private static void bounds(boolean ok) {
        if (!ok) {
            throw new IndexOutOfBoundsException();
        }
    }

    private static void args(boolean ok) {
        if (!ok) {
            throw new IllegalArgumentException();
        }
    }

    private static void state(boolean ok) {
        if (!ok) {
            throw new IllegalStateException();
        }
    }

    private static void element(boolean ok) {
        if (!ok) {
            throw new NoSuchElementException();
        }
    }

    private static boolean in(int x, int a, int b) {
        return a <= x && x <= b;
    }

    private boolean party(int p) {
        return in(p, 0, s.parties - 1);
    }

    private boolean land(int l) {
        return in(l, 0, s.lands - 1);
    }

    private boolean cand(int c) {
        return in(c, 0, s.candidates - 1);
    }

    private int tell(Q q) {
        board = q;
        return q.n.signum();
    }

    public int addParty() {
        state(s.parties < 6);
        act();
        return s.parties++;
    }

    public int addLand() {
        state(s.lands < 5);
        act();
        return s.lands++;
    }

    public int setVotes(int p, int l, int v) {
        bounds(party(p) && land(l));
        args(in(v, 0, 1000000));
        act();
        int b = s.votes[p][l];
        s.votes[p][l] = v;
        return b;
    }

    public int setPeople(int l, int v) {
        bounds(land(l));
        args(in(v, 0, 1000000));
        act();
        int b = s.people[l];
        s.people[l] = v;
        return b;
    }

    public void setBounds(boolean isLand, int i, int a, int b) {
        bounds(isLand ? land(i) : party(i));
        args(in(a, 0, 400) && in(b, a, 400));
        act();
        s.least[isLand ? 1 : 0][i] = a;
        s.greatest[isLand ? 1 : 0][i] = b;
    }

    public int setSum(boolean isLand, int i, int v) {
        bounds(isLand ? land(i) : party(i));
        args(in(v, 0, 40));
        act();
        int[] row = s.sums[isLand ? 1 : 0];
        int b = row[i];
        row[i] = v;
        return b;
    }

    public void setBar(int n, int d) {
        args(in(d, 1, 1000) && in(n, 0, d));
        act();
        s.barN = n;
        s.barD = d;
    }

    public void setPost(int n, int d) {
        args(in(d, 1, 1000) && in(n, 0, d));
        act();
        s.postN = n;
        s.postD = d;
    }

    public int type(long a, long b, long c, long d, long e, long f) {
        StringBuilder more = new StringBuilder();
        for (long x : new long[] {a, b, c, d, e, f}) {
            for (int k = 7; k >= 0; k--) {
                char sign = (char) (x >>> 8 * k & 255);
                if (sign != 0) {
                    more.append(sign);
                }
            }
        }
        state(text.length() + more.length() <= 600);
        text += more;
        return text.length();
    }

    public int clearText() {
        int b = text.length();
        text = "";
        return b;
    }

    // The text: all tokens first, then a walk over them that stops at the first error.

    private int errKind, errPlace, statements;

    private static final class Fault extends RuntimeException {
        private static final long serialVersionUID = 1;
        final int kind, place;

        Fault(int kind, int place) {
            this.kind = kind;
            this.place = place;
        }
    }

    private final List<String> tokens = new ArrayList<>();
    private final List<Integer> places = new ArrayList<>();
    private int cursor;

    private String take() {
        if (cursor >= tokens.size()) {
            throw new Fault(2, text.length());
        }
        String t = tokens.get(cursor++);
        boolean word = t.matches("[a-z]+");
        boolean number = t.matches("[0-9]+");
        boolean tooGreat = number && new BigInteger(t).compareTo(BigInteger.valueOf(1000000)) > 0;
        if (!word && !number && !t.equals(";") || tooGreat) {
            throw new Fault(1, at());
        }
        return t;
    }

    private int at() {
        return places.get(cursor - 1);
    }

    private int number() {
        String t = take();
        if (!t.matches("[0-9]+")) {
            throw new Fault(2, at());
        }
        return Integer.parseInt(t);
    }

    private int index(int there) {
        int i = number();
        if (i >= there) {
            throw new Fault(3, at());
        }
        return i;
    }

    private int upTo(int greatest) {
        int i = number();
        if (i > greatest) {
            throw new Fault(5, at());
        }
        return i;
    }

    private void walk(State t) {
        tokens.clear();
        places.clear();
        Matcher m = Pattern.compile("[a-z]+|[0-9]+|[^ \n]").matcher(text);
        while (m.find()) {
            tokens.add(m.group());
            places.add(m.start());
        }
        cursor = 0;
        errKind = 0;
        errPlace = -1;
        statements = 0;
        try {
            while (cursor < tokens.size()) {
                statement(take(), t);
                String stop = take();
                if (!stop.equals(";")) {
                    throw new Fault(2, at());
                }
                statements++;
            }
        } catch (Fault f) {
            errKind = f.kind;
            errPlace = f.place;
        }
    }

    private void statement(String w, State t) {
        switch (w) {
            case "party" -> {
                if (t.parties == 6) {
                    throw new Fault(4, at());
                }
                t.parties++;
            }
            case "land" -> {
                if (t.lands == 5) {
                    throw new Fault(4, at());
                }
                t.lands++;
            }
            case "votes" -> {
                int p = index(t.parties);
                int l = index(t.lands);
                t.votes[p][l] = upTo(1000000);
            }
            case "people" -> {
                int l = index(t.lands);
                t.people[l] = upTo(1000000);
            }
            case "sum" -> {
                String which = take();
                if (!which.equals("party") && !which.equals("land")) {
                    throw new Fault(2, at());
                }
                boolean isLand = which.equals("land");
                int i = index(isLand ? t.lands : t.parties);
                t.sums[isLand ? 1 : 0][i] = upTo(40);
            }
            case "bar", "post" -> {
                int n = number();
                int d = number();
                if (d < 1 || d > 1000 || n > d) {
                    throw new Fault(5, at());
                }
                if (w.equals("bar")) {
                    t.barN = n;
                    t.barD = d;
                } else {
                    t.postN = n;
                    t.postD = d;
                }
            }
            default -> throw new Fault(2, at());
        }
    }

    public int errorKind() {
        walk(s.copy());
        return errKind;
    }

    public int errorPlace() {
        walk(s.copy());
        return errPlace;
    }

    public int load() {
        walk(s.copy());
        state(errKind == 0);
        act();
        walk(s);
        text = "";
        return statements;
    }

    // Rows

    private long[] claims(int row, int land) {
        int n = row == 2 ? s.lands : s.parties;
        long[] c = new long[n];
        long all = 0;
        for (int i = 0; i < n; i++) {
            if (row == 0) {
                for (int l = 0; l < s.lands; l++) {
                    c[i] += s.votes[i][l];
                }
            } else {
                c[i] = row == 1 ? s.votes[i][land] : s.people[i];
            }
            all += c[i];
        }
        if (row < 2) {
            Q bar = new Q(s.barN, s.barD).times(new Q(all, 1));
            for (int i = 0; i < n; i++) {
                if (new Q(c[i], 1).compareTo(bar) < 0) {
                    c[i] = 0;
                }
            }
        }
        return c;
    }

    /** The square of the quotient, or null if it is more than all numbers. */
    private Q quotient(int rule, long c, int seat) {
        Q n = new Q(seat - 1, 1);
        Q s2;
        if (rule == 0) {
            Q sp = n.plus(new Q(s.postN, s.postD));
            s2 = sp.times(sp);
        } else if (rule == 1) {
            Q sp = new Q(2L * (seat - 1) * seat, 2L * seat - 1);
            s2 = sp.times(sp);
        } else {
            s2 = new Q((long) (seat - 1) * seat, 1);
        }
        return s2.n.signum() == 0 ? null : new Q(c, 1).times(new Q(c, 1)).by(s2);
    }

    private static int compareInf(Q a, Q b) {
        return a == null ? (b == null ? 0 : 1) : b == null ? -1 : a.compareTo(b);
    }

    private void choose(Q[] worth, boolean[] can, int left, int[] seats, List<int[]> out) {
        int top = -1;
        for (int i = 0; i < seats.length; i++) {
            if (can[i] && (top < 0 || compareInf(worth[i], worth[top]) > 0)) {
                top = i;
            }
        }
        List<Integer> group = new ArrayList<>();
        for (int i = 0; i < seats.length; i++) {
            if (can[i] && compareInf(worth[i], worth[top]) == 0) {
                group.add(i);
            }
        }
        pick(group, 0, left, seats.clone(), out);
    }

    private void pick(List<Integer> group, int k, int left, int[] seats, List<int[]> out) {
        if (left == 0) {
            out.add(seats.clone());
            return;
        }
        if (k == group.size()) {
            return;
        }
        seats[group.get(k)]++;
        pick(group, k + 1, left - 1, seats, out);
        seats[group.get(k)]--;
        pick(group, k + 1, left, seats, out);
    }

    private List<int[]> dealt(long[] c, int bounds, int rule, int house) {
        int n = c.length;
        List<int[]> out = new ArrayList<>();
        int[] seats = new int[n];
        int left = house;
        if (rule < 3) {
            int low = 0;
            int high = 0;
            for (int i = 0; i < n; i++) {
                seats[i] = s.least[bounds][i];
                low += s.least[bounds][i];
                high += c[i] > 0 ? s.greatest[bounds][i] : s.least[bounds][i];
            }
            if (house < low || house > high) {
                return out;
            }
            left -= low;
            while (left > 0) {
                Q[] worth = new Q[n];
                boolean[] can = new boolean[n];
                for (int i = 0; i < n; i++) {
                    can[i] = c[i] > 0 && seats[i] < s.greatest[bounds][i];
                    worth[i] = can[i] ? quotient(rule, c[i], seats[i] + 1) : Q.ZERO;
                }
                int top = -1;
                int many = 0;
                for (int i = 0; i < n; i++) {
                    if (can[i]) {
                        int o = top < 0 ? 1 : compareInf(worth[i], worth[top]);
                        many = o > 0 ? 1 : o == 0 ? many + 1 : many;
                        top = o > 0 ? i : top;
                    }
                }
                if (many > left) {
                    choose(worth, can, left, seats, out);
                    return out;
                }
                seats[top]++;
                left--;
            }
            out.add(seats);
            return out;
        }
        long all = Arrays.stream(c).sum();
        if (all == 0) {
            return out;
        }
        Q[] worth = new Q[n];
        boolean[] can = new boolean[n];
        for (int i = 0; i < n; i++) {
            Q quota = new Q(c[i] * house, all);
            seats[i] = quota.n.divide(quota.d).intValueExact();
            Q rest = quota.minus(new Q(seats[i], 1));
            can[i] = rest.n.signum() > 0;
            worth[i] = rule == 3 ? rest : can[i] ? rest.by(new Q(c[i], 1)) : Q.ZERO;
            left -= seats[i];
        }
        while (left > 0) {
            int top = -1;
            int many = 0;
            for (int i = 0; i < n; i++) {
                if (can[i]) {
                    int o = top < 0 ? 1 : worth[i].compareTo(worth[top]);
                    many = o > 0 ? 1 : o == 0 ? many + 1 : many;
                    top = o > 0 ? i : top;
                }
            }
            if (many > left) {
                choose(worth, can, left, seats, out);
                return out;
            }
            seats[top]++;
            can[top] = false;
            left--;
        }
        out.add(seats);
        return out;
    }

    private int[] first(long[] c, int bounds, int rule, int house) {
        List<int[]> all = dealt(c, bounds, rule, house);
        return all.isEmpty() ? null : all.get(0);
    }

    public int deal(int row, int land, int rule, int house) {
        bounds(row != 1 || land(land));
        args(in(row, 0, 2) && in(rule, 0, 4) && in(house, 1, 400));
        act();
        s.results = dealt(claims(row, land), row == 2 ? 1 : 0, rule, house);
        s.dealtSize = row == 2 ? s.lands : s.parties;
        return s.results.size();
    }

    public int seatAt(int result, int index) {
        bounds(in(result, 0, s.results.size() - 1) && in(index, 0, s.dealtSize - 1));
        return s.results.get(result)[index];
    }

    public int quota(int row, int land, int house, int index) {
        bounds(row != 1 || land(land));
        bounds(!in(row, 0, 2) || (row == 2 ? land(index) : party(index)));
        args(in(row, 0, 2) && in(house, 1, 400));
        long[] c = claims(row, land);
        long all = Arrays.stream(c).sum();
        return tell(all == 0 ? Q.ZERO : new Q(c[index] * house, all));
    }

    public int breaks(int law, int row, int land, int rule, int house) {
        bounds(row != 1 || land(land));
        args(in(law, 0, 3) && in(row, 0, 2) && in(rule, 0, 4) && in(house, 1, 60) && !(law == 1 && row == 2));
        long[] c = claims(row, land);
        int b = row == 2 ? 1 : 0;
        int n = c.length;
        if (law == 0) {
            for (int h = 1; h < house; h++) {
                int[] x = first(c, b, rule, h);
                int[] y = first(c, b, rule, h + 1);
                for (int i = 0; x != null && y != null && i < n; i++) {
                    if (y[i] < x[i]) {
                        return 1000 * h + i;
                    }
                }
            }
            return -1;
        }
        int[] x = first(c, b, rule, house);
        if (x == null) {
            return -1;
        }
        for (int a = 0; a < n; a++) {
            if (law == 2) {
                if (c[a] > 0 && x[a] > 0 && house > x[a]) {
                    long[] d = c.clone();
                    d[a] = 0;
                    int[] y = first(d, b, rule, house - x[a]);
                    for (int i = 0; y != null && i < n; i++) {
                        if (i != a && y[i] != x[i]) {
                            return 1000 * a + i;
                        }
                    }
                }
                continue;
            }
            for (int o = law == 1 ? a + 1 : 0; o < n; o++) {
                if (o == a || c[a] == 0 || c[o] == 0) {
                    continue;
                }
                long[] d = c.clone();
                if (law == 1) {
                    d[a] += d[o];
                    d[o] = 0;
                    int[] y = first(d, b, rule, house);
                    if (y != null && y[a] < x[a] + x[o]) {
                        return 1000 * a + o;
                    }
                } else {
                    d[a] = 11 * d[a] / 10;
                    d[o] += 1;
                    Q growA = new Q(d[a], c[a]);
                    Q growO = new Q(d[o], c[o]);
                    int[] y = first(d, b, rule, house);
                    if (y != null && growA.compareTo(growO) > 0 && y[a] < x[a] && y[o] > x[o]) {
                        return 1000 * a + o;
                    }
                }
            }
        }
        return -1;
    }

    public int tiers(int landRule, int rule, int base, int what) {
        args(in(landRule, 0, 4) && in(rule, 0, 4) && in(base, 1, 400));
        bounds(what >= 0 && (what < 2 || party(what - 2)));
        int[] floor = new int[s.parties];
        for (int l = 0; l < s.lands; l++) {
            int[] x = s.sums[1][l] == 0 ? null : first(claims(1, l), 0, landRule, s.sums[1][l]);
            for (int p = 0; x != null && p < s.parties; p++) {
                floor[p] += x[p];
            }
        }
        if (what >= 2) {
            return floor[what - 2];
        }
        long[] c = claims(0, 0);
        if (what == 1) {
            int[] x = first(c, 0, rule, base);
            if (x == null) {
                return -1;
            }
            int sum = 0;
            for (int p = 0; p < s.parties; p++) {
                sum += Math.max(0, floor[p] - x[p]);
            }
            return sum;
        }
        for (int h = base; h <= 400; h++) {
            int[] x = first(c, 0, rule, h);
            boolean ok = x != null;
            for (int p = 0; ok && p < s.parties; p++) {
                ok = x[p] >= floor[p];
            }
            if (ok) {
                return h;
            }
        }
        return -1;
    }

    // Tables: all with the right sums are tried.

    private Q post(int n) {
        return n < 0 ? Q.ZERO : new Q(n, 1).plus(s.fillPost);
    }

    public int fill() {
        int all = Arrays.stream(s.sums[0]).limit(s.parties).sum();
        state(s.postN > 0 && s.parties > 0 && s.lands > 0 && all <= 40);
        act();
        s.fillParties = s.parties;
        s.fillLands = s.lands;
        s.fillVotes = State.deep(s.votes);
        s.fillSums = State.deep(s.sums);
        s.fillPost = new Q(s.postN, s.postD);
        s.tables = new ArrayList<>();
        int[] landNeed = Arrays.copyOf(s.sums[1], 6);
        for (int l = s.lands; l < 6; l++) {
            landNeed[l] = 0;
        }
        int there = Arrays.stream(landNeed).sum();
        s.cut = new int[5];
        if (all == there) {
            tryCells(new int[6][5], 0, 0, s.parties == 0 ? 0 : s.sums[0][0], landNeed);
        }
        if (s.tables.isEmpty()) {
            if (all != there) {
                s.cut = new int[] {1, (1 << s.parties) - 1, (1 << s.lands) - 1, all, there};
            } else {
                findCut();
            }
        }
        if (s.tables.size() > 60) {
            s.tables = new ArrayList<>(s.tables.subList(0, 60));
        }
        return s.tables.size();
    }

    private void findCut() {
        for (int set = 0; set < 1 << s.parties; set++) {
            int lands = 0;
            int want = 0;
            int have = 0;
            for (int p = 0; p < s.parties; p++) {
                if ((set >> p & 1) == 1) {
                    want += s.sums[0][p];
                    for (int l = 0; l < s.lands; l++) {
                        lands |= s.votes[p][l] > 0 ? 1 << l : 0;
                    }
                }
            }
            for (int l = 0; l < s.lands; l++) {
                have += (lands >> l & 1) * s.sums[1][l];
            }
            if (want > have) {
                s.cut = new int[] {2, set, lands, want, have};
                return;
            }
        }
        throw new AssertionError("no cut");
    }

    private void tryCells(int[][] x, int p, int l, int need, int[] landNeed) {
        if (l == s.lands) {
            if (need > 0) {
                return;
            }
            if (p + 1 == s.parties) {
                if (Arrays.stream(landNeed).allMatch(v -> v == 0) && hasFactors(x)) {
                    s.tables.add(State.deep(x));
                }
                return;
            }
            tryCells(x, p + 1, 0, s.sums[0][p + 1], landNeed);
            return;
        }
        int most = s.votes[p][l] == 0 ? 0 : Math.min(need, landNeed[l]);
        for (int k = most; k >= 0; k--) {
            x[p][l] = k;
            landNeed[l] -= k;
            tryCells(x, p, l + 1, need - k, landNeed);
            landNeed[l] += k;
        }
        x[p][l] = 0;
    }

    /** No round trip over the cells may be worth less than 1: all products of two ways are tried by squaring. */
    private boolean hasFactors(int[][] x) {
        int n = s.parties + s.lands;
        Q[][] way = new Q[n][n];
        for (int p = 0; p < s.parties; p++) {
            if (s.sums[0][p] == 0) {
                continue;
            }
            for (int l = 0; l < s.lands; l++) {
                if (s.votes[p][l] > 0) {
                    way[p][s.parties + l] = post(x[p][l]).by(new Q(s.votes[p][l], 1));
                    if (x[p][l] > 0) {
                        way[s.parties + l][p] = new Q(s.votes[p][l], 1).by(post(x[p][l] - 1));
                    }
                }
            }
        }
        for (int k = 0; k < n; k++) {
            for (int i = 0; i < n; i++) {
                for (int j = 0; j < n; j++) {
                    if (way[i][k] != null && way[k][j] != null) {
                        Q q = way[i][k].times(way[k][j]);
                        if (way[i][j] == null || q.compareTo(way[i][j]) < 0) {
                            way[i][j] = q;
                        }
                    }
                }
            }
            for (int i = 0; i < n; i++) {
                if (way[i][i] != null && way[i][i].compareTo(Q.ONE) < 0) {
                    return false;
                }
            }
        }
        return true;
    }

    public int cellAt(int table, int p, int l) {
        bounds(in(table, 0, s.tables.size() - 1) && in(p, 0, s.fillParties - 1) && in(l, 0, s.fillLands - 1));
        return s.tables.get(table)[p][l];
    }

    public int factor(int table, boolean isLand, int index) {
        bounds(in(table, 0, s.tables.size() - 1));
        bounds(in(index, 0, (isLand ? s.fillLands : s.fillParties) - 1));
        return tell(factors(s.tables.get(table))[isLand ? 1 : 0][index]);
    }

    /** By the words of section 4: blocks first, then bounds that are tightened until they stand still. */
    private Q[][] factors(int[][] x) {
        Q[] p = new Q[s.fillParties];
        Q[] l = new Q[s.fillLands];
        boolean[] partyDone = new boolean[6];
        boolean[] landDone = new boolean[5];
        for (int first = 0; first < s.fillParties; first++) {
            if (partyDone[first] || s.fillSums[0][first] == 0) {
                continue;
            }
            boolean[] ps = new boolean[6];
            boolean[] ls = new boolean[5];
            ps[first] = true;
            for (int step = 0; step < 12; step++) {
                for (int i = 0; i < s.fillParties; i++) {
                    for (int j = 0; j < s.fillLands; j++) {
                        if (ps[i] && !landDone[j] && s.fillVotes[i][j] > 0) {
                            ls[j] = true;
                        }
                        if (ls[j] && x[i][j] > 0) {
                            ps[i] = true;
                        }
                    }
                }
            }
            p[first] = Q.ONE;
            for (int step = 0; step < 30; step++) {
                for (int i = 0; i < s.fillParties; i++) {
                    for (int j = 0; j < s.fillLands; j++) {
                        if (!ps[i] || !ls[j] || s.fillVotes[i][j] == 0) {
                            continue;
                        }
                        Q v = new Q(s.fillVotes[i][j], 1);
                        if (p[i] != null) {
                            Q most = post(x[i][j]).by(v.times(p[i]));
                            l[j] = l[j] == null || most.compareTo(l[j]) < 0 ? most : l[j];
                        }
                        if (l[j] != null && x[i][j] > 0) {
                            Q least = post(x[i][j] - 1).by(v.times(l[j]));
                            p[i] = p[i] == null || least.compareTo(p[i]) > 0 ? least : p[i];
                        }
                    }
                }
            }
            if (p[first].compareTo(Q.ONE) != 0) {
                throw new AssertionError("the first party's factor is not 1");
            }
            Q k = Q.ONE;
            for (int i = 0; i < s.fillParties; i++) {
                for (int j = 0; j < s.fillLands; j++) {
                    if (ps[i] && landDone[j] && s.fillVotes[i][j] > 0) {
                        Q most = post(x[i][j]).by(new Q(s.fillVotes[i][j], 1).times(p[i]).times(l[j]));
                        k = most.compareTo(k) < 0 ? most : k;
                    }
                }
            }
            for (int i = 0; i < 6; i++) {
                if (ps[i]) {
                    p[i] = p[i].times(k);
                    partyDone[i] = true;
                }
            }
            for (int j = 0; j < 5; j++) {
                if (ls[j]) {
                    l[j] = l[j].by(k);
                    landDone[j] = true;
                }
            }
        }
        for (int i = 0; i < p.length; i++) {
            p[i] = p[i] == null ? Q.ZERO : p[i];
        }
        for (int j = 0; j < l.length; j++) {
            l[j] = l[j] == null ? Q.ONE : l[j];
        }
        for (int i = 0; i < p.length; i++) {
            for (int j = 0; j < l.length; j++) {
                if (s.fillVotes[i][j] > 0) {
                    Q q = new Q(s.fillVotes[i][j], 1).times(p[i]).times(l[j]);
                    if (q.compareTo(post(x[i][j])) > 0 || q.compareTo(post(x[i][j] - 1)) < 0) {
                        throw new AssertionError("the factors do not make the table");
                    }
                }
            }
        }
        return new Q[][] {p, l};
    }

    public int cutAt(int what) {
        args(in(what, 0, 4));
        return s.cut[what];
    }

    // Ballots

    public int setCandidates(int many) {
        args(in(many, 2, 6));
        act();
        int b = s.candidates;
        s.candidates = many;
        s.ballots.clear();
        s.rounds = new ArrayList<>();
        return b;
    }

    private boolean isRow(int row) {
        if (row < 0) {
            return false;
        }
        String digits = row == 0 ? "" : Integer.toString(row);
        return digits.chars().distinct().count() == digits.length()
                && digits.chars().allMatch(c -> c >= '1' && c < '1' + s.candidates);
    }

    private static String rowText(int row) {
        return row == 0 ? "" : Integer.toString(row);
    }

    public int addBallot(int many, int row) {
        args(in(many, 1, 1000) && isRow(row));
        state(s.ballots.size() < 20);
        act();
        s.ballots.add(new int[] {many, row});
        return s.ballots.size() - 1;
    }

    /** A pile of votes: lying with somebody, from a round on; a part that stays has no row any more. */
    private static final class Pile {
        String row;
        Q worth;
        int with;
        int since;
    }

    public int elect(int seats, int quota, int moving) {
        args(in(seats, 1, 5) && in(quota, 0, 2) && in(moving, 0, 2) && seats < s.candidates);
        state(!s.ballots.isEmpty());
        act();
        long v = s.ballots.stream().mapToLong(b -> b[0]).sum();
        Q reach = quota == 0 ? new Q(v, seats + 1) : quota == 1 ? new Q(v / (seats + 1) + 1, 1) : new Q(v, seats);
        int nobody = 6;
        String hopeful = "123456".substring(0, s.candidates);
        List<Pile> piles = new ArrayList<>();
        for (int[] b : s.ballots) {
            Pile pile = new Pile();
            pile.row = rowText(b[1]);
            pile.worth = new Q(b[0], 1);
            pile.with = pile.row.isEmpty() ? nobody : pile.row.charAt(0) - '1';
            pile.since = -1;
            piles.add(pile);
        }
        s.rounds = new ArrayList<>();
        s.fates = new int[6];
        int elected = 0;
        for (int round = 0;; round++) {
            Q[] votes = new Q[7];
            Arrays.fill(votes, Q.ZERO);
            for (Pile pile : piles) {
                votes[pile.with] = votes[pile.with].plus(pile.worth);
            }
            s.rounds.add(votes);
            if (elected + hopeful.length() <= seats) {
                for (char c : hopeful.toCharArray()) {
                    s.fates[c - '1'] = ++elected;
                }
                break;
            }
            int best = -1;
            int worst = -1;
            for (char ch : hopeful.toCharArray()) {
                int c = ch - '1';
                best = best < 0 || votes[c].compareTo(votes[best]) > 0 ? c : best;
                worst = worst < 0 || votes[c].compareTo(votes[worst]) <= 0 ? c : worst;
            }
            int order = votes[best].compareTo(reach);
            if (quota == 0 ? order > 0 : order >= 0) {
                hopeful = hopeful.replace("" + (best + 1), "");
                s.fates[best] = ++elected;
                if (elected == seats) {
                    break;
                }
                Q surplus = votes[best].minus(reach);
                if (surplus.n.signum() <= 0 || moving == 2) {
                    continue;
                }
                int latest = -1;
                for (Pile pile : piles) {
                    if (pile.row != null && pile.with == best && moving == 1) {
                        latest = Math.max(latest, pile.since);
                    }
                }
                List<Pile> moved = new ArrayList<>();
                Q together = Q.ZERO;
                for (Pile pile : piles) {
                    if (pile.row != null && pile.with == best && (moving == 0 || pile.since == latest)) {
                        moved.add(pile);
                        together = together.plus(pile.worth);
                    }
                }
                if (together.n.signum() == 0) {
                    continue;
                }
                Q share = surplus.by(moving == 0 ? votes[best] : together);
                share = share.compareTo(Q.ONE) > 0 ? Q.ONE : share;
                for (Pile pile : moved) {
                    Pile stays = new Pile();
                    stays.with = best;
                    stays.worth = pile.worth.minus(pile.worth.times(share));
                    piles.add(stays);
                    pile.worth = pile.worth.times(share);
                    move(pile, hopeful, round);
                }
            } else {
                hopeful = hopeful.replace("" + (worst + 1), "");
                s.fates[worst] = -1 - round;
                for (Pile pile : piles) {
                    if (pile.row != null && pile.with == worst) {
                        move(pile, hopeful, round);
                    }
                }
            }
        }
        return s.rounds.size();
    }

    private static void move(Pile pile, String hopeful, int round) {
        int at = pile.row.indexOf('1' + pile.with);
        pile.with = 6;
        pile.since = round;
        for (int k = at + 1; k < pile.row.length(); k++) {
            if (hopeful.indexOf(pile.row.charAt(k)) >= 0) {
                pile.with = pile.row.charAt(k) - '1';
                return;
            }
        }
    }

    public int electedAt(int c) {
        bounds(cand(c));
        state(!s.rounds.isEmpty());
        return s.fates[c];
    }

    public int votesAt(int round, int c) {
        bounds(in(round, 0, s.rounds.size() - 1) && (c == -1 || cand(c)));
        return tell(s.rounds.get(round)[c == -1 ? 6 : c]);
    }

    public int openAt(int place, int n, int d) {
        bounds(cand(place));
        args(in(d, 1, 100) && in(n, 0, d));
        int[] votes = new int[6];
        int all = 0;
        for (int[] b : s.ballots) {
            all += b[0];
            if (b[1] > 0) {
                votes[rowText(b[1]).charAt(0) - '1'] += b[0];
            }
        }
        List<Integer> ahead = new ArrayList<>();
        List<Integer> behind = new ArrayList<>();
        for (int c = 0; c < s.candidates; c++) {
            boolean reaches = new Q(votes[c], 1).compareTo(new Q(n, d).times(new Q(all, 1))) >= 0;
            (reaches ? ahead : behind).add(c);
        }
        ahead.sort((a, b) -> votes[a] != votes[b] ? votes[b] - votes[a] : a - b);
        ahead.addAll(behind);
        return ahead.get(place);
    }

    // Districts

    public int addBlock(int people, int red, int blue) {
        args(in(people, 0, 1000) && in(red, 0, 1000) && in(blue, 0, 1000));
        state(s.blocks.size() < 9);
        act();
        s.blocks.add(new int[] {people, red, blue});
        return s.blocks.size() - 1;
    }

    public boolean join(int a, int b) {
        bounds(in(a, 0, s.blocks.size() - 1) && in(b, 0, s.blocks.size() - 1));
        args(a != b);
        act();
        boolean is = !s.near[a][b];
        s.near[a][b] = true;
        s.near[b][a] = true;
        return is;
    }

    private List<int[]> allMaps(int d) {
        TreeSet<String> seen = new TreeSet<>();
        int n = s.blocks.size();
        int codes = n == 0 ? 0 : (int) Math.round(Math.pow(d, n));
        for (int code = 0; code < codes; code++) {
            int[] map = new int[n];
            for (int i = 0, r = code; i < n; i++, r /= d) {
                map[i] = r % d;
            }
            StringBuilder named = new StringBuilder();
            List<Integer> names = new ArrayList<>();
            for (int i = 0; i < n; i++) {
                if (!names.contains(map[i])) {
                    names.add(map[i]);
                }
                named.append(names.indexOf(map[i]));
            }
            if (names.size() == d && !seen.contains(named.toString()) && hangs(map, d)) {
                seen.add(named.toString());
            }
        }
        List<int[]> out = new ArrayList<>();
        for (String t : seen) {
            out.add(t.chars().map(c -> c - '0').toArray());
        }
        return out;
    }

    private boolean hangs(int[] map, int d) {
        int n = map.length;
        boolean[][] tied = new boolean[n][n];
        for (int i = 0; i < n; i++) {
            for (int j = 0; j < n; j++) {
                tied[i][j] = i == j || s.near[i][j] && map[i] == map[j];
            }
        }
        for (int k = 0; k < n; k++) {
            for (int i = 0; i < n; i++) {
                for (int j = 0; j < n; j++) {
                    tied[i][j] |= tied[i][k] && tied[k][j];
                }
            }
        }
        for (int i = 0; i < n; i++) {
            for (int j = 0; j < n; j++) {
                if (map[i] == map[j] && !tied[i][j]) {
                    return false;
                }
            }
        }
        return true;
    }

    private int spread(int[] map, int d) {
        int[] sum = new int[d];
        for (int i = 0; i < map.length; i++) {
            sum[map[i]] += s.blocks.get(i)[0];
        }
        return Arrays.stream(sum).max().getAsInt() - Arrays.stream(sum).min().getAsInt();
    }

    private int rim(int[] map) {
        int r = 0;
        for (int i = 0; i < map.length; i++) {
            for (int j = 0; j < i; j++) {
                r += s.near[i][j] && map[i] != map[j] ? 1 : 0;
            }
        }
        return r;
    }

    private int red(int[] map, int d) {
        int won = 0;
        for (int k = 0; k < d; k++) {
            int lead = 0;
            for (int i = 0; i < map.length; i++) {
                lead += map[i] == k ? s.blocks.get(i)[1] - s.blocks.get(i)[2] : 0;
            }
            won += lead > 0 ? 1 : 0;
        }
        return won;
    }

    private int[] toldMap(int d) {
        List<int[]> all = allMaps(d);
        return all.isEmpty() ? null : Collections.min(all, (a, b) -> {
            int o = Integer.compare(spread(a, d), spread(b, d));
            o = o != 0 ? o : Integer.compare(rim(a), rim(b));
            return o != 0 ? o : Arrays.compare(a, b);
        });
    }

    public int maps(int d, int what) {
        args(in(d, 1, 3) && in(what, 0, 3));
        int[] told = toldMap(d);
        if (what == 0) {
            return allMaps(d).size();
        }
        if (told == null) {
            return -1;
        }
        if (what == 3) {
            return (int) allMaps(d).stream()
                    .filter(m -> spread(m, d) == spread(told, d) && rim(m) == rim(told)).count();
        }
        return what == 1 ? spread(told, d) : rim(told);
    }

    public int districtAt(int d, int block) {
        bounds(in(block, 0, s.blocks.size() - 1));
        args(in(d, 1, 3));
        int[] told = toldMap(d);
        element(told != null);
        return told[block];
    }

    public int tilt(int d, int limit, boolean isMost) {
        args(in(d, 1, 3) && in(limit, 0, 9000));
        int[] won = allMaps(d).stream().filter(m -> spread(m, d) <= limit).mapToInt(m -> red(m, d)).toArray();
        Arrays.sort(won);
        return won.length == 0 ? -1 : won[isMost ? won.length - 1 : 0];
    }

    // Panels

    public int addPerson(int age, int kind, int land) {
        args(in(age, 0, 2) && in(kind, 0, 2) && in(land, 0, 2));
        state(s.persons.size() < 9);
        act();
        s.persons.add(new int[] {age, kind, land});
        return s.persons.size() - 1;
    }

    public int want(int mark, int value, int many) {
        args(in(mark, 0, 2) && in(value, 0, 2) && in(many, -1, 9));
        act();
        int b = s.wants[mark][value];
        s.wants[mark][value] = many;
        return b;
    }

    private List<Integer> allPanels(int size) {
        List<Integer> out = new ArrayList<>();
        for (int set = 0; set < 1 << s.persons.size(); set++) {
            int[][] have = new int[3][3];
            for (int i = 0; i < s.persons.size(); i++) {
                for (int m = 0; m < 3 && (set >> i & 1) == 1; m++) {
                    have[m][s.persons.get(i)[m]]++;
                }
            }
            boolean ok = Integer.bitCount(set) == size;
            for (int m = 0; m < 3; m++) {
                for (int v = 0; v < 3; v++) {
                    ok &= s.wants[m][v] == -1 || s.wants[m][v] == have[m][v];
                }
            }
            if (ok) {
                out.add(set);
            }
        }
        return out;
    }

    public int panels(int size, int person) {
        args(in(size, 1, 9));
        bounds(person == -1 || in(person, 0, s.persons.size() - 1));
        return (int) allPanels(size).stream().filter(p -> person == -1 || (p >> person & 1) == 1).count();
    }

    public int chance(int size) {
        args(in(size, 1, 9));
        return tell(likeChance(allPanels(size)));
    }

    /** The greatest sum of shares with 1 at most in each panel: simplex steps with fractions, by the lowest numbers. */
    private Q likeChance(List<Integer> sets) {
        if (sets.isEmpty()) {
            return Q.ZERO;
        }
        int union = 0;
        for (int set : sets) {
            union |= set;
        }
        int n = Integer.bitCount(union);
        int m = sets.size();
        int vars = n + m;
        Q[][] t = new Q[m + 1][vars + 1];
        int[] basis = new int[m];
        for (int r = 0; r < m; r++) {
            Arrays.fill(t[r], Q.ZERO);
            int c = 0;
            for (int i = 0; i < 9; i++) {
                if ((union >> i & 1) == 1) {
                    t[r][c++] = new Q(sets.get(r) >> i & 1, 1);
                }
            }
            t[r][n + r] = Q.ONE;
            t[r][vars] = Q.ONE;
            basis[r] = n + r;
        }
        Arrays.fill(t[m], Q.ZERO);
        for (int c = 0; c < n; c++) {
            t[m][c] = new Q(-1, 1);
        }
        while (true) {
            int col = 0;
            while (col < vars && t[m][col].n.signum() >= 0) {
                col++;
            }
            if (col == vars) {
                break;
            }
            int row = -1;
            for (int r = 0; r < m; r++) {
                if (t[r][col].n.signum() > 0) {
                    int o = row < 0 ? -1 : t[r][vars].by(t[r][col]).compareTo(t[row][vars].by(t[row][col]));
                    row = o < 0 || o == 0 && basis[r] < basis[row] ? r : row;
                }
            }
            Q pivot = t[row][col];
            for (int c = 0; c <= vars; c++) {
                t[row][c] = t[row][c].by(pivot);
            }
            for (int r = 0; r <= m; r++) {
                Q f = t[r][col];
                for (int c = 0; c <= vars && r != row && f.n.signum() != 0; c++) {
                    t[r][c] = t[r][c].minus(f.times(t[row][c]));
                }
            }
            basis[row] = col;
        }
        // The last line tells a lottery, too: by it the value is shown to be right from both sides.
        Q value = t[m][vars];
        Q sum = Q.ZERO;
        Q[] y = new Q[n];
        Arrays.fill(y, Q.ZERO);
        for (int r = 0; r < m; r++) {
            sum = sum.plus(t[m][n + r]);
            if (basis[r] < n) {
                y[basis[r]] = t[r][vars];
            }
        }
        check(sum.compareTo(value) == 0, "dual");
        int c = 0;
        for (int i = 0; i < 9; i++) {
            if ((union >> i & 1) == 1) {
                Q cover = Q.ZERO;
                for (int r = 0; r < m; r++) {
                    cover = (sets.get(r) >> i & 1) == 1 ? cover.plus(t[m][n + r]) : cover;
                }
                check(cover.compareTo(Q.ONE) >= 0, "cover");
                c++;
            }
        }
        for (int set : sets) {
            Q load = Q.ZERO;
            int k = 0;
            for (int i = 0; i < 9; i++) {
                if ((union >> i & 1) == 1) {
                    load = (set >> i & 1) == 1 ? load.plus(y[k]) : load;
                    k++;
                }
            }
            check(load.compareTo(Q.ONE) <= 0 && c == n, "load");
        }
        return Q.ONE.by(value);
    }

    private static void check(boolean ok, String what) {
        if (!ok) {
            throw new AssertionError(what);
        }
    }

    // Weights

    public int addPlayer(int weight) {
        args(in(weight, 0, 100));
        state(s.weights.size() < 6);
        act();
        s.weights.add(weight);
        return s.weights.size() - 1;
    }

    public int setMajority(int majority) {
        args(in(majority, 1, 600));
        act();
        int b = s.majority;
        s.majority = majority;
        return b;
    }

    private boolean wins(int set) {
        int w = 0;
        for (int i = 0; i < s.weights.size(); i++) {
            w += (set >> i & 1) * s.weights.get(i);
        }
        return w >= s.majority;
    }

    private void orders(List<Integer> order, int[] first) {
        if (order.size() == s.weights.size()) {
            int set = 0;
            for (int p : order) {
                set |= 1 << p;
                if (wins(set)) {
                    first[p]++;
                    return;
                }
            }
            return;
        }
        for (int p = 0; p < s.weights.size(); p++) {
            if (!order.contains(p)) {
                order.add(p);
                orders(order, first);
                order.remove(order.size() - 1);
            }
        }
    }

    public int power(int player, boolean bySwings) {
        bounds(in(player, 0, s.weights.size() - 1));
        int[] part = new int[6];
        if (bySwings) {
            for (int set = 0; set < 1 << s.weights.size(); set++) {
                for (int p = 0; p < s.weights.size(); p++) {
                    part[p] += (set >> p & 1) == 1 && wins(set) && !wins(set ^ 1 << p) ? 1 : 0;
                }
            }
        } else {
            orders(new ArrayList<>(), part);
        }
        int all = Arrays.stream(part).sum();
        return tell(all == 0 ? Q.ZERO : new Q(part[player], all));
    }

    private List<Integer> leastSets() {
        List<Integer> out = new ArrayList<>();
        for (int set = 0; set < 1 << s.weights.size(); set++) {
            boolean ok = wins(set);
            for (int sub = 0; sub < set; sub++) {
                ok &= (sub & ~set) != 0 || !wins(sub);
            }
            if (ok) {
                out.add(set);
            }
        }
        return out;
    }

    public int leastAt(int index) {
        element(in(index, 0, leastSets().size() - 1));
        return leastSets().get(index);
    }

    public int otherwise() {
        int n = s.weights.size();
        boolean[] win = new boolean[1 << n];
        boolean any = false;
        for (int set = 0; set < 1 << n; set++) {
            win[set] = wins(set);
            any |= win[set];
        }
        for (int sum = 0; any; sum++) {
            if (sameWins(new int[n], 0, sum, win)) {
                return sum;
            }
        }
        return 0;
    }

    private static boolean sameWins(int[] w, int k, int left, boolean[] win) {
        if (k == w.length) {
            if (left > 0) {
                return false;
            }
            int least = Integer.MAX_VALUE;
            int most = 0;
            for (int set = 0; set < win.length; set++) {
                int sum = 0;
                for (int i = 0; i < k; i++) {
                    sum += (set >> i & 1) * w[i];
                }
                least = win[set] ? Math.min(least, sum) : least;
                most = win[set] ? most : Math.max(most, sum);
            }
            return least > most;
        }
        for (int x = k + 1 == w.length ? left : 0; x <= left; x++) {
            w[k] = x;
            if (sameWins(w, k + 1, left - x, win)) {
                return true;
            }
        }
        return false;
    }

    // Agendas

    public int margin(int a, int b) {
        bounds(cand(a) && cand(b));
        int lead = 0;
        for (int[] ballot : s.ballots) {
            String row = rowText(ballot[1]);
            int i = row.indexOf('1' + a);
            int j = row.indexOf('1' + b);
            boolean aAbove = i >= 0 && (j < 0 || i < j);
            boolean bAbove = j >= 0 && (i < 0 || j < i);
            lead += aAbove ? ballot[0] : bAbove ? -ballot[0] : 0;
        }
        return lead;
    }

    public int agenda(int agenda) {
        args(isRow(agenda) && rowText(agenda).length() == s.candidates);
        int left = -1;
        for (char ch : rowText(agenda).toCharArray()) {
            int c = ch - '1';
            left = left < 0 || margin(c, left) > 0 ? c : left;
        }
        return left;
    }

    private List<Integer> agendasThatBring(int c) {
        List<Integer> out = new ArrayList<>();
        int top = Integer.parseInt("999999".substring(0, s.candidates));
        for (int a = 1; a <= top; a++) {
            if (rowText(a).length() == s.candidates && isRow(a) && agenda(a) == c) {
                out.add(a);
            }
        }
        return out;
    }

    public int agendaFor(int c) {
        bounds(cand(c));
        List<Integer> all = agendasThatBring(c);
        return all.isEmpty() ? 0 : all.get(0);
    }

    public int agendasFor(int c) {
        bounds(cand(c));
        return agendasThatBring(c).size();
    }

    // The board, reports, undo

    public int digits(boolean isDenominator, int group) {
        String t = (isDenominator ? board.d : board.n.abs()).toString();
        element(group >= 0 && 9L * group < t.length());
        int end = t.length() - 9 * group;
        return Integer.parseInt(t.substring(Math.max(0, end - 9), end));
    }

    public int write(int what) {
        args(in(what, 0, 2));
        StringBuilder out = new StringBuilder();
        if (what == 0) {
            for (int[] r : s.results) {
                out.append(line(r, s.dealtSize));
            }
        } else if (what == 1) {
            for (int[][] t : s.tables) {
                for (int p = 0; p < s.fillParties; p++) {
                    out.append(line(t[p], s.fillLands));
                }
                out.append("-\n");
            }
        } else {
            out.append(board.n).append("/").append(board.d).append("\n");
        }
        report = out.toString();
        return report.length();
    }

    private static String line(int[] numbers, int many) {
        List<String> parts = new ArrayList<>();
        for (int i = 0; i < many; i++) {
            parts.add("" + numbers[i]);
        }
        return String.join(" ", parts) + "\n";
    }

    public int signAt(int index) {
        element(in(index, 0, report.length() - 1));
        return report.charAt(index);
    }

    public int undo() {
        state(!past.isEmpty());
        s = past.remove(past.size() - 1);
        return past.size();
    }

    public int count(int what) {
        args(in(what, 0, 11));
        return new int[] {s.parties, s.lands, s.candidates, s.ballots.size(), s.blocks.size(), s.persons.size(),
            s.weights.size(), s.results.size(), s.tables.size(), s.rounds.size(), past.size(),
            leastSets().size()}[what];
    }

    public int errors() {
        return 0;
    }
}
