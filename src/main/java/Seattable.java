import java.util.NoSuchElementException;

/**
 * A house that deals out seats. The document ../shared/DOC.md says what each call must do; the sections and
 * promises that comments name are those of the document.
 *
 * <p>All rows that the calls need are made once, with the object, and used again by every call.
 */
public final class Seattable {
    public static final int NONE = -1;

    private static final int MAX_PARTIES = 6;
    private static final int MAX_LANDS = 5;
    private static final int MAX_CELLS = MAX_PARTIES * MAX_LANDS;
    private static final int MAX_NODES = MAX_PARTIES + MAX_LANDS;
    private static final int MAX_HOUSE = 400;
    private static final int MAX_VOTES = 1000000;
    private static final int MAX_SUM = 40;
    private static final int MAX_SHARE = 1000;
    private static final int MAX_RESULTS = 20;
    private static final int MAX_TABLES = 60;
    private static final int MAX_CANDIDATES = 6;
    private static final int MAX_BALLOTS = 20;
    private static final int MAX_BLOCKS = 9;
    private static final int MAX_PERSONS = 9;
    private static final int MAX_PLAYERS = 6;
    private static final int MAX_UNDO = 12;
    private static final int MAX_TEXT = 600;
    private static final int MAX_REPORT = 6000;

    private static final int ROW_OF_LAND = 1;
    private static final int ROW_OF_LANDS = 2;
    private static final int FIRST_QUOTA_RULE = 3;

    private final House now = new House();
    private final House[] past = new House[MAX_UNDO];
    private int oldest;
    private int remembered;
    private final Script script = new Script();
    private final Fraction board = new Fraction();
    private final byte[] report = new byte[MAX_REPORT];
    private int written;
    private final Dealer dealer = new Dealer();
    private final Filler filler = new Filler();
    private final Ballots ballots = new Ballots();
    private final Maps surveyor = new Maps();
    private final Panels drawer = new Panels();
    private final Weights weigher = new Weights();

    public Seattable() {
        for (int i = 0; i < MAX_UNDO; i++) {
            past[i] = new House();
        }
    }

    // ---- votes

    public int addParty() throws IllegalStateException {
        int number = now.parties();
        if (number >= MAX_PARTIES) {
            throw new IllegalStateException();
        }
        remember();
        now.heads[House.PARTIES] = number + 1;
        return number;
    }

    public int addLand() throws IllegalStateException {
        int number = now.lands();
        if (number >= MAX_LANDS) {
            throw new IllegalStateException();
        }
        remember();
        now.heads[House.LANDS] = number + 1;
        return number;
    }

    public int setVotes(int party, int land, int votes) throws IndexOutOfBoundsException, IllegalArgumentException {
        if (!isParty(party) || !isLand(land)) {
            throw new IndexOutOfBoundsException();
        }
        if (!isWithin(votes, 0, MAX_VOTES)) {
            throw new IllegalArgumentException();
        }
        remember();
        int cell = cellOf(party, land);
        int before = now.votes[cell];
        now.votes[cell] = votes;
        return before;
    }

    public int setPeople(int land, int people) throws IndexOutOfBoundsException, IllegalArgumentException {
        if (!isLand(land)) {
            throw new IndexOutOfBoundsException();
        }
        if (!isWithin(people, 0, MAX_VOTES)) {
            throw new IllegalArgumentException();
        }
        remember();
        int before = now.people[land];
        now.people[land] = people;
        return before;
    }

    public void setBounds(boolean isLand, int index, int least, int greatest)
            throws IndexOutOfBoundsException, IllegalArgumentException {
        if (!isPartyOrLand(isLand, index)) {
            throw new IndexOutOfBoundsException();
        }
        if (!isWithin(least, 0, MAX_HOUSE) || !isWithin(greatest, least, MAX_HOUSE)) {
            throw new IllegalArgumentException();
        }
        remember();
        int node = nodeOf(isLand, index);
        now.least[node] = least;
        now.greatest[node] = greatest;
    }

    public int setSum(boolean isLand, int index, int seats) throws IndexOutOfBoundsException, IllegalArgumentException {
        if (!isPartyOrLand(isLand, index)) {
            throw new IndexOutOfBoundsException();
        }
        if (!isWithin(seats, 0, MAX_SUM)) {
            throw new IllegalArgumentException();
        }
        remember();
        int node = nodeOf(isLand, index);
        int before = now.sums[node];
        now.sums[node] = seats;
        return before;
    }

    public void setBar(int numerator, int denominator) throws IllegalArgumentException {
        if (!isShare(numerator, denominator, MAX_SHARE)) {
            throw new IllegalArgumentException();
        }
        remember();
        now.heads[House.BAR_TOP] = numerator;
        now.heads[House.BAR_BOTTOM] = denominator;
    }

    public void setPost(int numerator, int denominator) throws IllegalArgumentException {
        if (!isShare(numerator, denominator, MAX_SHARE)) {
            throw new IllegalArgumentException();
        }
        remember();
        now.heads[House.POST_TOP] = numerator;
        now.heads[House.POST_BOTTOM] = denominator;
    }

    // ---- the text

    public int type(long a, long b, long c, long d, long e, long f) throws IllegalStateException {
        int more = Script.bytesIn(a) + Script.bytesIn(b) + Script.bytesIn(c)
                + Script.bytesIn(d) + Script.bytesIn(e) + Script.bytesIn(f);
        if (script.length + more > MAX_TEXT) {
            throw new IllegalStateException();
        }
        script.append(a);
        script.append(b);
        script.append(c);
        script.append(d);
        script.append(e);
        script.append(f);
        return script.length;
    }

    public int clearText() {
        int before = script.length;
        script.length = 0;
        return before;
    }

    public int errorKind() {
        script.read(now, false);
        return script.kind;
    }

    public int errorPlace() {
        script.read(now, false);
        return script.place;
    }

    public int load() throws IllegalStateException {
        script.read(now, false);
        if (script.kind != 0) {
            throw new IllegalStateException();
        }
        remember();
        script.read(now, true);
        script.length = 0;
        return script.statements;
    }

    // ---- one row

    public int deal(int row, int land, int rule, int house) throws IndexOutOfBoundsException, IllegalArgumentException {
        if (row == ROW_OF_LAND && !isLand(land)) {
            throw new IndexOutOfBoundsException();
        }
        if (!isWithin(row, 0, 2) || !isWithin(rule, 0, 4) || !isWithin(house, 1, MAX_HOUSE)) {
            throw new IllegalArgumentException();
        }
        remember();
        dealer.line(now, row, land);
        return dealer.dealAll(rule, house, now.dealt);
    }

    public int seatAt(int result, int index) throws IndexOutOfBoundsException {
        if (!isWithin(result, 0, now.dealt[House.RESULTS] - 1) || !isWithin(index, 0, now.dealt[House.SIZE] - 1)) {
            throw new IndexOutOfBoundsException();
        }
        return now.seatsDealt(result, index);
    }

    public int quota(int row, int land, int house, int index)
            throws IndexOutOfBoundsException, IllegalArgumentException {
        boolean isRow = isWithin(row, 0, 2);
        if (row == ROW_OF_LAND && !isLand(land) || isRow && !isPartyOrLand(row == ROW_OF_LANDS, index)) {
            throw new IndexOutOfBoundsException();
        }
        if (!isRow || !isWithin(house, 1, MAX_HOUSE)) {
            throw new IllegalArgumentException();
        }
        dealer.line(now, row, land);
        long all = dealer.sumOfClaims();
        return all == 0 ? board.tell(0, 1) : board.tell(dealer.claims[index] * house, all);
    }

    public int breaks(int law, int row, int land, int rule, int house)
            throws IndexOutOfBoundsException, IllegalArgumentException {
        if (row == ROW_OF_LAND && !isLand(land)) {
            throw new IndexOutOfBoundsException();
        }
        if (!isWithin(law, 0, 3) || !isWithin(row, 0, 2) || !isWithin(rule, 0, 4) || !isWithin(house, 1, 60)
                || law == 1 && row == ROW_OF_LANDS) {
            throw new IllegalArgumentException();
        }
        dealer.line(now, row, land);
        if (law == 0) {
            return dealer.breachOfGrowth(rule, house);
        }
        if (!dealer.isKept(rule, house)) {
            return NONE;
        }
        return law == 1 ? dealer.breachOfJoining(rule, house) : law == 2 ? dealer.breachOfLeaving(rule, house)
                : dealer.breachOfGaining(rule, house);
    }

    // ---- tables

    public int fill() throws IllegalStateException {
        if (now.heads[House.POST_TOP] == 0 || now.parties() == 0 || now.lands() == 0 || now.sumOf(false) > MAX_SUM) {
            throw new IllegalStateException();
        }
        remember();
        filler.fillAll(now);
        return now.filled[House.TABLES];
    }

    public int cellAt(int table, int party, int land) throws IndexOutOfBoundsException {
        if (!isTable(table) || !isFilled(false, party) || !isFilled(true, land)) {
            throw new IndexOutOfBoundsException();
        }
        return now.cells[table * MAX_CELLS + cellOf(party, land)];
    }

    public int factor(int table, boolean isLand, int index) throws IndexOutOfBoundsException {
        if (!isTable(table) || !isFilled(isLand, index)) {
            throw new IndexOutOfBoundsException();
        }
        filler.findFactors(now, table);
        filler.putFactor(nodeOf(isLand, index), board);
        return board.settle();
    }

    public int cutAt(int what) throws IllegalArgumentException {
        if (!isWithin(what, 0, 4)) {
            throw new IllegalArgumentException();
        }
        return now.filled[House.CUT + what];
    }

    // ---- tiers

    public int tiers(int landRule, int rule, int base, int what)
            throws IllegalArgumentException, IndexOutOfBoundsException {
        if (!isWithin(landRule, 0, 4) || !isWithin(rule, 0, 4) || !isWithin(base, 1, MAX_HOUSE)) {
            throw new IllegalArgumentException();
        }
        if (what < 0 || what >= 2 && !isParty(what - 2)) {
            throw new IndexOutOfBoundsException();
        }
        dealer.findFloors(now, landRule);
        if (what >= 2) {
            return dealer.floors[what - 2];
        }
        dealer.line(now, 0, 0);
        return what == 0 ? dealer.evenedHouse(rule, base) : dealer.overhang(rule, base);
    }

    // ---- ballots

    public int setCandidates(int many) throws IllegalArgumentException {
        if (!isWithin(many, 2, MAX_CANDIDATES)) {
            throw new IllegalArgumentException();
        }
        remember();
        int before = now.candidates();
        now.heads[House.CANDIDATES] = many;
        now.heads[House.BALLOTS] = 0;
        now.counted[House.ROUNDS] = 0;
        return before;
    }

    public int addBallot(int many, int row) throws IllegalArgumentException, IllegalStateException {
        if (!isWithin(many, 1, 1000) || Ballots.setOf(row, now.candidates()) == NONE) {
            throw new IllegalArgumentException();
        }
        int number = now.ballots();
        if (number >= MAX_BALLOTS) {
            throw new IllegalStateException();
        }
        remember();
        now.many[number] = many;
        now.rows[number] = row;
        now.heads[House.BALLOTS] = number + 1;
        return number;
    }

    public int elect(int seats, int quota, int moving) throws IllegalArgumentException, IllegalStateException {
        if (!isWithin(seats, 1, 5) || !isWithin(quota, 0, 2) || !isWithin(moving, 0, 2) || seats >= now.candidates()) {
            throw new IllegalArgumentException();
        }
        if (now.ballots() == 0) {
            throw new IllegalStateException();
        }
        remember();
        ballots.runCount(now, seats, quota, moving);
        return now.rounds();
    }

    public int electedAt(int candidate) throws IndexOutOfBoundsException, IllegalStateException {
        if (!isCandidate(candidate)) {
            throw new IndexOutOfBoundsException();
        }
        if (now.rounds() == 0) {
            throw new IllegalStateException();
        }
        return now.counted[House.FATES + candidate];
    }

    public int votesAt(int round, int candidate) throws IndexOutOfBoundsException {
        if (!isWithin(round, 0, now.rounds() - 1) || candidate != NONE && !isCandidate(candidate)) {
            throw new IndexOutOfBoundsException();
        }
        now.readTally(round, candidate == NONE ? House.NOBODY : candidate, board.top);
        now.readTally(round, House.WHOLE, board.bottom);
        return board.settle();
    }

    public int openAt(int place, int numerator, int denominator)
            throws IndexOutOfBoundsException, IllegalArgumentException {
        if (!isCandidate(place)) {
            throw new IndexOutOfBoundsException();
        }
        if (!isShare(numerator, denominator, 100)) {
            throw new IllegalArgumentException();
        }
        return ballots.openPlace(now, place, numerator, denominator);
    }

    // ---- districts

    public int addBlock(int people, int red, int blue) throws IllegalArgumentException, IllegalStateException {
        if (!isWithin(people, 0, 1000) || !isWithin(red, 0, 1000) || !isWithin(blue, 0, 1000)) {
            throw new IllegalArgumentException();
        }
        int number = now.blocks();
        if (number >= MAX_BLOCKS) {
            throw new IllegalStateException();
        }
        remember();
        now.blocks[3 * number] = people;
        now.blocks[3 * number + 1] = red;
        now.blocks[3 * number + 2] = blue;
        now.heads[House.BLOCKS] = number + 1;
        return number;
    }

    public boolean join(int one, int other) throws IndexOutOfBoundsException, IllegalArgumentException {
        if (!isBlock(one) || !isBlock(other)) {
            throw new IndexOutOfBoundsException();
        }
        if (one == other) {
            throw new IllegalArgumentException();
        }
        remember();
        boolean isNew = (now.near[one] >> other & 1) == 0;
        now.near[one] |= 1 << other;
        now.near[other] |= 1 << one;
        return isNew;
    }

    public int maps(int districts, int what) throws IllegalArgumentException {
        if (!isWithin(districts, 1, 3) || !isWithin(what, 0, 3)) {
            throw new IllegalArgumentException();
        }
        surveyor.survey(now, districts, 0);
        if (what == 0) {
            return surveyor.many;
        }
        if (surveyor.many == 0) {
            return NONE;
        }
        return what == 1 ? surveyor.spread : what == 2 ? surveyor.rim : surveyor.alike;
    }

    public int districtAt(int districts, int block)
            throws IndexOutOfBoundsException, IllegalArgumentException, NoSuchElementException {
        if (!isBlock(block)) {
            throw new IndexOutOfBoundsException();
        }
        if (!isWithin(districts, 1, 3)) {
            throw new IllegalArgumentException();
        }
        surveyor.survey(now, districts, 0);
        if (surveyor.many == 0) {
            throw new NoSuchElementException();
        }
        return surveyor.told[block];
    }

    public int tilt(int districts, int spread, boolean isMost) throws IllegalArgumentException {
        if (!isWithin(districts, 1, 3) || !isWithin(spread, 0, 9000)) {
            throw new IllegalArgumentException();
        }
        surveyor.survey(now, districts, spread);
        return isMost ? surveyor.mostRed : surveyor.fewestRed;
    }

    // ---- panels

    public int addPerson(int age, int kind, int land) throws IllegalArgumentException, IllegalStateException {
        if (!isWithin(age, 0, 2) || !isWithin(kind, 0, 2) || !isWithin(land, 0, 2)) {
            throw new IllegalArgumentException();
        }
        int number = now.persons();
        if (number >= MAX_PERSONS) {
            throw new IllegalStateException();
        }
        remember();
        now.marks[3 * number] = age;
        now.marks[3 * number + 1] = kind;
        now.marks[3 * number + 2] = land;
        now.heads[House.PERSONS] = number + 1;
        return number;
    }

    public int want(int mark, int value, int many) throws IllegalArgumentException {
        if (!isWithin(mark, 0, 2) || !isWithin(value, 0, 2) || !isWithin(many, NONE, MAX_PERSONS)) {
            throw new IllegalArgumentException();
        }
        remember();
        int before = now.wants[3 * mark + value];
        now.wants[3 * mark + value] = many;
        return before;
    }

    public int panels(int size, int person) throws IllegalArgumentException, IndexOutOfBoundsException {
        if (!isWithin(size, 1, MAX_PERSONS)) {
            throw new IllegalArgumentException();
        }
        if (person != NONE && !isWithin(person, 0, now.persons() - 1)) {
            throw new IndexOutOfBoundsException();
        }
        drawer.findPanels(now, size);
        return person == NONE ? drawer.many : drawer.panelsWith(person);
    }

    public int chance(int size) throws IllegalArgumentException {
        if (!isWithin(size, 1, MAX_PERSONS)) {
            throw new IllegalArgumentException();
        }
        drawer.findPanels(now, size);
        drawer.findLikeChance();
        return board.tell(drawer.chanceTop, drawer.chanceBottom);
    }

    // ---- weights

    public int addPlayer(int weight) throws IllegalArgumentException, IllegalStateException {
        if (!isWithin(weight, 0, 100)) {
            throw new IllegalArgumentException();
        }
        int number = now.players();
        if (number >= MAX_PLAYERS) {
            throw new IllegalStateException();
        }
        remember();
        now.weights[number] = weight;
        now.heads[House.PLAYERS] = number + 1;
        return number;
    }

    public int setMajority(int majority) throws IllegalArgumentException {
        if (!isWithin(majority, 1, 600)) {
            throw new IllegalArgumentException();
        }
        remember();
        int before = now.heads[House.MAJORITY];
        now.heads[House.MAJORITY] = majority;
        return before;
    }

    public int power(int player, boolean bySwings) throws IndexOutOfBoundsException {
        if (!isWithin(player, 0, now.players() - 1)) {
            throw new IndexOutOfBoundsException();
        }
        weigher.look(now);
        int all = weigher.allOfPower(bySwings);
        return all == 0 ? board.tell(0, 1) : board.tell(weigher.partOfPower(player, bySwings), all);
    }

    public int leastAt(int index) throws NoSuchElementException {
        weigher.look(now);
        int set = weigher.leastWinning(index);
        if (set == NONE) {
            throw new NoSuchElementException();
        }
        return set;
    }

    public int otherwise() {
        weigher.look(now);
        return weigher.leastSum();
    }

    // ---- agendas

    public int margin(int one, int other) throws IndexOutOfBoundsException {
        if (!isCandidate(one) || !isCandidate(other)) {
            throw new IndexOutOfBoundsException();
        }
        return Ballots.leadOf(now, one, other);
    }

    public int agenda(int agenda) throws IllegalArgumentException {
        int candidates = now.candidates();
        if (Ballots.setOf(agenda, candidates) != (1 << candidates) - 1) {
            throw new IllegalArgumentException();
        }
        return ballots.leftBy(now, agenda);
    }

    public int agendaFor(int candidate) throws IndexOutOfBoundsException {
        if (!isCandidate(candidate)) {
            throw new IndexOutOfBoundsException();
        }
        ballots.findAgendas(now, candidate);
        return ballots.firstAgenda;
    }

    public int agendasFor(int candidate) throws IndexOutOfBoundsException {
        if (!isCandidate(candidate)) {
            throw new IndexOutOfBoundsException();
        }
        ballots.findAgendas(now, candidate);
        return ballots.agendas;
    }

    // ---- the board, reports, undo

    public int digits(boolean isDenominator, int group) throws NoSuchElementException {
        Big number = isDenominator ? board.bottom : board.top;
        if (group < 0 || group >= number.groups()) {
            throw new NoSuchElementException();
        }
        return number.group(group);
    }

    public int write(int what) throws IllegalArgumentException {
        if (!isWithin(what, 0, 2)) {
            throw new IllegalArgumentException();
        }
        written = 0;
        if (what == 0) {
            writeResults();
        } else if (what == 1) {
            writeTables();
        } else {
            writeBoard();
        }
        return written;
    }

    public int signAt(int index) throws NoSuchElementException {
        if (!isWithin(index, 0, written - 1)) {
            throw new NoSuchElementException();
        }
        return report[index];
    }

    public int undo() throws IllegalStateException {
        if (remembered == 0) {
            throw new IllegalStateException();
        }
        remembered--;
        now.take(past[(oldest + remembered) % MAX_UNDO]);
        return remembered;
    }

    public int count(int what) throws IllegalArgumentException {
        if (!isWithin(what, 0, 11)) {
            throw new IllegalArgumentException();
        }
        switch (what) {
            case 7:
                return now.dealt[House.RESULTS];
            case 8:
                return now.filled[House.TABLES];
            case 9:
                return now.rounds();
            case 10:
                return remembered;
            case 11:
                weigher.look(now);
                return weigher.leastWinningSets();
            default:
                return now.heads[what];
        }
    }

    public int errors() {
        int wrong = 0;
        for (int table = 0; table < now.filled[House.TABLES]; table++) {
            filler.findFactors(now, table);
            wrong += filler.isRight() ? 0 : 1;
        }
        weigher.look(now);
        wrong += weigher.isWhole(true) ? 0 : 1;
        wrong += weigher.isWhole(false) ? 0 : 1;
        for (int round = 0; round < now.rounds(); round++) {
            wrong += ballots.isWhole(now, round) ? 0 : 1;
        }
        return wrong;
    }

    // ---- what the calls share

    private static boolean isWithin(int number, int least, int greatest) {
        return number >= least && number <= greatest;
    }

    private static boolean isShare(int numerator, int denominator, int greatest) {
        return isWithin(denominator, 1, greatest) && isWithin(numerator, 0, denominator);
    }

    private boolean isParty(int party) {
        return isWithin(party, 0, now.parties() - 1);
    }

    private boolean isLand(int land) {
        return isWithin(land, 0, now.lands() - 1);
    }

    private boolean isPartyOrLand(boolean isLand, int index) {
        return isLand ? isLand(index) : isParty(index);
    }

    private boolean isCandidate(int candidate) {
        return isWithin(candidate, 0, now.candidates() - 1);
    }

    private boolean isBlock(int block) {
        return isWithin(block, 0, now.blocks() - 1);
    }

    private boolean isTable(int table) {
        return isWithin(table, 0, now.filled[House.TABLES] - 1);
    }

    /** Whether a party or land was there when the tables were filled. */
    private boolean isFilled(boolean isLand, int index) {
        return isWithin(index, 0, now.filled[isLand ? House.FILLED_LANDS : House.FILLED_PARTIES] - 1);
    }

    private static int cellOf(int party, int land) {
        return party * MAX_LANDS + land;
    }

    /** Parties and lands in one numbering, the parties first. */
    private static int nodeOf(boolean isLand, int index) {
        return isLand ? MAX_PARTIES + index : index;
    }

    private void remember() {
        if (remembered == MAX_UNDO) {
            oldest = (oldest + 1) % MAX_UNDO;
            remembered--;
        }
        past[(oldest + remembered) % MAX_UNDO].take(now);
        remembered++;
    }

    private void writeResults() {
        for (int result = 0; result < now.dealt[House.RESULTS]; result++) {
            for (int i = 0; i < now.dealt[House.SIZE]; i++) {
                putSeats(now.seatsDealt(result, i), i > 0);
            }
            putByte('\n');
        }
    }

    private void writeTables() {
        for (int table = 0; table < now.filled[House.TABLES]; table++) {
            for (int party = 0; party < now.filled[House.FILLED_PARTIES]; party++) {
                for (int land = 0; land < now.filled[House.FILLED_LANDS]; land++) {
                    putSeats(now.cells[table * MAX_CELLS + cellOf(party, land)], land > 0);
                }
                putByte('\n');
            }
            putByte('-');
            putByte('\n');
        }
    }

    private void writeBoard() {
        putBig(board.top);
        putByte('/');
        putBig(board.bottom);
        putByte('\n');
    }

    private void putSeats(int seats, boolean isBlankAhead) {
        if (isBlankAhead) {
            putByte(' ');
        }
        putNumber(seats, 1);
    }

    private void putBig(Big number) {
        int last = number.groups() - 1;
        for (int group = last; group >= 0; group--) {
            putNumber(number.group(group), group == last ? 1 : 9);
        }
    }

    /** Puts the digits of a number below 10 to the 9, at least the told number of them. */
    private void putNumber(int number, int least) {
        int digit = 100000000;
        boolean isBegun = false;
        for (int left = 9; left > 0; left--) {
            int value = number / digit % 10;
            isBegun = isBegun || value > 0 || left <= least;
            if (isBegun) {
                putByte('0' + value);
            }
            digit = left > 1 ? digit / 10 : 1;
        }
    }

    private void putByte(int sign) {
        if (written < MAX_REPORT) {
            report[written] = (byte) sign;
            written++;
        }
    }

    /** All that undo() brings back: what was set, and what was dealt out, filled and counted last. */
    private static final class House {
        static final int PARTIES = 0;
        static final int LANDS = 1;
        static final int CANDIDATES = 2;
        static final int BALLOTS = 3;
        static final int BLOCKS = 4;
        static final int PERSONS = 5;
        static final int PLAYERS = 6;
        static final int MAJORITY = 7;
        static final int BAR_TOP = 8;
        static final int BAR_BOTTOM = 9;
        static final int POST_TOP = 10;
        static final int POST_BOTTOM = 11;
        final int[] heads = new int[12];

        final int[] votes = new int[MAX_CELLS];
        final int[] people = new int[MAX_LANDS];
        /** The bounds and sums of the parties and lands, by their nodes. */
        final int[] least = new int[MAX_NODES];
        final int[] greatest = new int[MAX_NODES];
        final int[] sums = new int[MAX_NODES];

        final int[] many = new int[MAX_BALLOTS];
        final int[] rows = new int[MAX_BALLOTS];
        /** People, red and blue of each block; and of each one the set of its neighbours. */
        final int[] blocks = new int[3 * MAX_BLOCKS];
        final int[] near = new int[MAX_BLOCKS];
        final int[] marks = new int[3 * MAX_PERSONS];
        final int[] wants = new int[9];
        final int[] weights = new int[MAX_PLAYERS];

        /** The latest deal: how many results, how many stand in the row, and the results in rows of six. */
        static final int RESULTS = 0;
        static final int SIZE = 1;
        static final int SEATS = 2;
        final int[] dealt = new int[SEATS + MAX_RESULTS * MAX_PARTIES];

        /** The latest fill: what it was made of (as that may have changed since), its tables, and its cut. */
        static final int TABLES = 0;
        static final int FILLED_PARTIES = 1;
        static final int FILLED_LANDS = 2;
        static final int FILLED_POST_TOP = 3;
        static final int FILLED_POST_BOTTOM = 4;
        static final int CUT = 5;
        final int[] filled = new int[CUT + 5];
        final int[] filledVotes = new int[MAX_CELLS];
        final int[] cells = new int[MAX_TABLES * MAX_CELLS];

        /** The latest count: its rounds, what became of the candidates, and the votes, also as each round began. */
        static final int ROUNDS = 0;
        static final int FATES = 1;
        static final int ALL_VOTES = FATES + MAX_CANDIDATES;
        static final int NOBODY = MAX_CANDIDATES;
        static final int WHOLE = NOBODY + 1;
        static final int SLOTS = WHOLE + 1;
        static final int TALLY_LIMBS = 12;
        static final int MAX_ROUNDS = MAX_CANDIDATES;
        final int[] counted = new int[ALL_VOTES + 1];
        final int[] tally = new int[MAX_ROUNDS * SLOTS * TALLY_LIMBS];

        House() {
            heads[CANDIDATES] = 2;
            heads[MAJORITY] = 1;
            heads[BAR_BOTTOM] = 1;
            heads[POST_TOP] = 1;
            heads[POST_BOTTOM] = 2;
            for (int node = 0; node < MAX_NODES; node++) {
                greatest[node] = MAX_HOUSE;
            }
            for (int i = 0; i < 9; i++) {
                wants[i] = NONE;
            }
        }

        int parties() {
            return heads[PARTIES];
        }

        int lands() {
            return heads[LANDS];
        }

        int candidates() {
            return heads[CANDIDATES];
        }

        int ballots() {
            return heads[BALLOTS];
        }

        int blocks() {
            return heads[BLOCKS];
        }

        int persons() {
            return heads[PERSONS];
        }

        int players() {
            return heads[PLAYERS];
        }

        int rounds() {
            return counted[ROUNDS];
        }

        /** The sums of all parties, or of all lands, together. */
        int sumOf(boolean isLand) {
            int sum = 0;
            int there = isLand ? lands() : parties();
            for (int i = 0; i < there; i++) {
                sum += sums[nodeOf(isLand, i)];
            }
            return sum;
        }

        int seatsDealt(int result, int index) {
            return dealt[SEATS + result * MAX_PARTIES + index];
        }

        /** Keeps a number of a round; the numbers of a count have at most 81 digits (section 7's limits). */
        void keepTally(int round, int slot, Big number) {
            int start = (round * SLOTS + slot) * TALLY_LIMBS;
            for (int i = 0; i < TALLY_LIMBS; i++) {
                tally[start + i] = i < number.size ? number.limbs[i] : 0;
            }
        }

        void readTally(int round, int slot, Big into) {
            int start = (round * SLOTS + slot) * TALLY_LIMBS;
            for (int i = 0; i < TALLY_LIMBS; i++) {
                into.limbs[i] = tally[start + i];
            }
            into.size = TALLY_LIMBS;
            into.trim();
        }

        void take(House other) {
            copy(other.heads, heads);
            copy(other.votes, votes);
            copy(other.people, people);
            copy(other.least, least);
            copy(other.greatest, greatest);
            copy(other.sums, sums);
            copy(other.many, many);
            copy(other.rows, rows);
            copy(other.blocks, blocks);
            copy(other.near, near);
            copy(other.marks, marks);
            copy(other.wants, wants);
            copy(other.weights, weights);
            copy(other.dealt, dealt);
            copy(other.filled, filled);
            copy(other.filledVotes, filledVotes);
            copy(other.cells, cells);
            copy(other.counted, counted);
            copy(other.tally, tally);
        }

        private static void copy(int[] source, int[] target) {
            System.arraycopy(source, 0, target, 0, source.length < target.length ? source.length : target.length);
        }
    }

    /**
     * A whole number, 0 or above, in groups of nine decimal digits, the lowest first. ROOM is more than twice what
     * any call needs: the longest are products in the search for factors, below 40 groups.
     */
    private static final class Big {
        static final int BASE = 1000000000;
        static final int ROOM = 96;
        final int[] limbs = new int[ROOM];
        int size;

        void put(long value) {
            size = 0;
            for (long rest = value; rest > 0 && size < ROOM; rest /= BASE) {
                limbs[size] = (int) (rest % BASE);
                size++;
            }
        }

        void take(Big other) {
            System.arraycopy(other.limbs, 0, limbs, 0, other.size);
            size = other.size;
        }

        void trim() {
            while (size > 0 && limbs[size - 1] == 0) {
                size--;
            }
        }

        boolean isZero() {
            return size == 0;
        }

        boolean isEven() {
            return size == 0 || (limbs[0] & 1) == 0;
        }

        boolean isOne() {
            return size == 1 && limbs[0] == 1;
        }

        /** How many groups are told of it: a 0 has one. */
        int groups() {
            return size == 0 ? 1 : size;
        }

        int group(int index) {
            return index >= 0 && index < size ? limbs[index] : 0;
        }

        void times(int by) {
            long carry = 0;
            for (int i = 0; i < size; i++) {
                long here = (long) limbs[i] * by + carry;
                limbs[i] = (int) (here % BASE);
                carry = here / BASE;
            }
            for (; carry > 0 && size < ROOM; carry /= BASE) {
                limbs[size] = (int) (carry % BASE);
                size++;
            }
            trim();
        }

        /** Becomes the product of two others (neither of which is this one). */
        void product(Big one, Big other) {
            size = one.size + other.size < ROOM ? one.size + other.size : ROOM;
            for (int i = 0; i < size; i++) {
                limbs[i] = 0;
            }
            for (int i = 0; i < one.size; i++) {
                long carry = 0;
                for (int j = 0; j < other.size && i + j < size; j++) {
                    long here = (long) one.limbs[i] * other.limbs[j] + limbs[i + j] + carry;
                    limbs[i + j] = (int) (here % BASE);
                    carry = here / BASE;
                }
                if (i + other.size < size) {
                    limbs[i + other.size] = (int) carry;
                }
            }
            while (size > 0 && limbs[size - 1] == 0) {
                size--;
            }
        }

        void plus(Big other) {
            int carry = 0;
            for (int i = 0; i < ROOM && (i < other.size || carry > 0); i++) {
                int here = group(i) + other.group(i) + carry;
                limbs[i] = here >= BASE ? here - BASE : here;
                carry = here >= BASE ? 1 : 0;
                size = i < size ? size : i + 1;
            }
        }

        /** Takes away a number that is not greater. */
        void minus(Big other) {
            int borrow = 0;
            for (int i = 0; i < size; i++) {
                int here = limbs[i] - other.group(i) - borrow;
                borrow = here < 0 ? 1 : 0;
                limbs[i] = here < 0 ? here + BASE : here;
            }
            trim();
        }

        void halve() {
            int carry = 0;
            for (int i = size - 1; i >= 0; i--) {
                int here = limbs[i] + carry;
                carry = (here & 1) * BASE;
                limbs[i] = here / 2;
            }
            trim();
        }

        /** Puts a group below the lowest one. */
        void push(int limb) {
            if (size < ROOM) {
                System.arraycopy(limbs, 0, limbs, 1, size);
                limbs[0] = limb;
                size++;
                trim();
            }
        }

        /** Below 0, 0 or above 0, as this is less than the other, the same or more. */
        int against(Big other) {
            if (size != other.size) {
                return size < other.size ? -1 : 1;
            }
            for (int i = size - 1; i >= 0; i--) {
                if (limbs[i] != other.limbs[i]) {
                    return limbs[i] < other.limbs[i] ? -1 : 1;
                }
            }
            return 0;
        }
    }

    /** The fraction on the board. None that is told can be below 0, so that it bears no sign. */
    private static final class Fraction {
        /** A step of the search for the common divisor takes a bit away at least every second time. */
        private static final int MAX_STEPS = 4 * 30 * Big.ROOM;
        final Big top = new Big();
        final Big bottom = new Big();
        private final Big divisor = new Big();
        private final Big other = new Big();
        private final Big rest = new Big();
        private final Big part = new Big();

        Fraction() {
            bottom.put(1);
        }

        int tell(long numerator, long denominator) {
            top.put(numerator);
            bottom.put(denominator);
            return settle();
        }

        /** Brings what was put to lowest terms, and tells its sign. */
        int settle() {
            if (top.isZero() || bottom.isZero()) {
                top.put(0);
                bottom.put(1);
                return 0;
            }
            findCommonDivisor();
            if (!divisor.isOne()) {
                divide(top);
                divide(bottom);
            }
            return 1;
        }

        private void findCommonDivisor() {
            divisor.take(top);
            other.take(bottom);
            int twos = 0;
            for (int step = 0; step < MAX_STEPS && !other.isZero(); step++) {
                if (divisor.isEven()) {
                    divisor.halve();
                    if (other.isEven()) {
                        other.halve();
                        twos++;
                    }
                } else if (other.isEven()) {
                    other.halve();
                } else if (other.against(divisor) >= 0) {
                    other.minus(divisor);
                } else {
                    divisor.minus(other);
                }
            }
            for (; twos > 0; twos--) {
                divisor.times(2);
            }
        }

        /** Divides a number by the common divisor, by hand: a group of nine digits after the other. */
        private void divide(Big number) {
            rest.put(0);
            for (int i = number.size - 1; i >= 0; i--) {
                rest.push(number.limbs[i]);
                int digit = timesInRest();
                part.take(divisor);
                part.times(digit);
                rest.minus(part);
                number.limbs[i] = digit;
            }
            number.trim();
        }

        private int timesInRest() {
            int least = 0;
            int greatest = Big.BASE - 1;
            for (int step = 0; step < 31 && least < greatest; step++) {
                int middle = greatest - (greatest - least) / 2;
                part.take(divisor);
                part.times(middle);
                if (part.against(rest) <= 0) {
                    least = middle;
                } else {
                    greatest = middle - 1;
                }
            }
            return least;
        }
    }

    /** The text of section 12: looks for its first error, and does what it tells. */
    private static final class Script {
        private static final int END = 0;
        private static final int BAD = 1;
        private static final int WORD = 2;
        private static final int NUMBER = 3;
        private static final int STOP = 4;

        private static final int PARTY = 0;
        private static final int LAND = 1;
        private static final int VOTES = 2;
        private static final int PEOPLE = 3;
        private static final int SUM = 4;
        private static final int BAR = 5;
        private static final int POST = 6;
        private static final int NO_WORD = 7;

        private static final int MAX_NUMBER = 1000000;

        private final byte[] bytes = new byte[MAX_TEXT];
        int length;
        int kind;
        int place;
        int statements;
        private int at;
        private int token;
        private int tokenAt;
        /** Of a word which one it is, of a number the number. */
        private int value;
        private int parties;
        private int lands;
        private boolean isOfLand;
        private int party;
        private int node;
        private int first;
        private int second;

        static int bytesIn(long number) {
            int many = 0;
            for (int shift = 56; shift >= 0; shift -= 8) {
                many += (number >>> shift & 255) != 0 ? 1 : 0;
            }
            return many;
        }

        void append(long number) {
            for (int shift = 56; shift >= 0; shift -= 8) {
                int sign = (int) (number >>> shift & 255);
                if (sign != 0 && length < MAX_TEXT) {
                    bytes[length] = (byte) sign;
                    length++;
                }
            }
        }

        /** Reads the text up to its first error; does the statements too, if that is wanted. */
        void read(House house, boolean isDone) {
            at = 0;
            kind = 0;
            place = NONE;
            statements = 0;
            parties = house.parties();
            lands = house.lands();
            next();
            for (int step = 0; step <= MAX_TEXT && token != END && kind == 0; step++) {
                int word = token == WORD ? value : NO_WORD;
                readStatement(word);
                expect(STOP, 0, 2);
                if (kind == 0) {
                    statements++;
                    if (isDone) {
                        act(word, house);
                    }
                }
            }
        }

        private void readStatement(int word) {
            switch (word) {
                case PARTY:
                    expect(WORD, parties < MAX_PARTIES ? PARTY : NONE, 4);
                    parties++;
                    break;
                case LAND:
                    expect(WORD, lands < MAX_LANDS ? LAND : NONE, 4);
                    lands++;
                    break;
                case VOTES:
                    next();
                    party = value;
                    expect(NUMBER, parties - 1, 3);
                    node = value;
                    expect(NUMBER, lands - 1, 3);
                    first = value;
                    expect(NUMBER, MAX_VOTES, 5);
                    break;
                case PEOPLE:
                    next();
                    node = value;
                    expect(NUMBER, lands - 1, 3);
                    first = value;
                    expect(NUMBER, MAX_VOTES, 5);
                    break;
                case SUM:
                    next();
                    isOfLand = value == LAND;
                    expect(WORD, LAND, 2);
                    node = value;
                    expect(NUMBER, (isOfLand ? lands : parties) - 1, 3);
                    first = value;
                    expect(NUMBER, MAX_SUM, 5);
                    break;
                case BAR:
                case POST:
                    next();
                    first = value;
                    expect(NUMBER, MAX_NUMBER, 5);
                    second = value;
                    expect(NUMBER, isShare(first, second, MAX_SHARE) ? MAX_NUMBER : NONE, 5);
                    break;
                default:
                    fail(2);
            }
        }

        /** Goes on behind a token of the wanted sort, with a value up to the greatest (else it fails as told). */
        private void expect(int wanted, int greatest, int why) {
            if (token != wanted) {
                fail(2);
            } else if (value > greatest) {
                fail(why);
            }
            if (kind == 0) {
                next();
            }
        }

        /** Only the first error is told; a bad token is one of the kind 1 wherever it stands. */
        private void fail(int why) {
            if (kind == 0) {
                kind = token == BAD ? 1 : why;
                place = tokenAt;
            }
        }

        private void act(int word, House house) {
            if (word == PARTY) {
                house.heads[House.PARTIES] = parties;
            } else if (word == LAND) {
                house.heads[House.LANDS] = lands;
            } else if (word == VOTES) {
                house.votes[cellOf(party, node)] = first;
            } else if (word == PEOPLE) {
                house.people[node] = first;
            } else if (word == SUM) {
                house.sums[nodeOf(isOfLand, node)] = first;
            } else {
                house.heads[word == BAR ? House.BAR_TOP : House.POST_TOP] = first;
                house.heads[word == BAR ? House.BAR_BOTTOM : House.POST_BOTTOM] = second;
            }
        }

        private int signAhead() {
            return at < length ? bytes[at] & 255 : 0;
        }

        private void next() {
            while (at < length && (signAhead() == ' ' || signAhead() == '\n')) {
                at++;
            }
            tokenAt = at;
            value = 0;
            int sign = signAhead();
            if (at >= length) {
                token = END;
            } else if (sign >= 'a' && sign <= 'z') {
                nextWord();
            } else if (sign >= '0' && sign <= '9') {
                nextNumber();
            } else {
                token = sign == ';' ? STOP : BAD;
                at++;
            }
        }

        private void nextWord() {
            while (at < length && signAhead() >= 'a' && signAhead() <= 'z') {
                at++;
            }
            token = WORD;
            value = isWord("party") ? PARTY : isWord("land") ? LAND : isWord("votes") ? VOTES
                    : isWord("people") ? PEOPLE : isWord("sum") ? SUM : isWord("bar") ? BAR
                    : isWord("post") ? POST : NO_WORD;
        }

        private boolean isWord(String word) {
            if (at - tokenAt != word.length()) {
                return false;
            }
            for (int i = 0; i < word.length(); i++) {
                if (bytes[tokenAt + i] != word.charAt(i)) {
                    return false;
                }
            }
            return true;
        }

        private void nextNumber() {
            while (at < length && signAhead() >= '0' && signAhead() <= '9') {
                value = value > MAX_NUMBER ? value : value * 10 + signAhead() - '0';
                at++;
            }
            token = value > MAX_NUMBER ? BAD : NUMBER;
        }
    }

    /** Deals a house out to one row (section 3), tries the laws (section 5) and evens tiers out (section 6). */
    private static final class Dealer {
        final long[] claims = new long[MAX_PARTIES];
        final int[] floors = new int[MAX_PARTIES];
        private final long[] rests = new long[MAX_PARTIES];
        private final int[] least = new int[MAX_PARTIES];
        private final int[] greatest = new int[MAX_PARTIES];
        /** The seats that are sure, those that are left then, and the set of alike next ones that are too many. */
        private final int[] seats = new int[MAX_PARTIES];
        private int left;
        private int alike;
        private final int[] first = new int[MAX_PARTIES];
        private final int[] before = new int[MAX_PARTIES];
        private int size;
        private int postTop;
        private int postBottom;

        /** Lines up the claims and bounds of a row. */
        void line(House house, int row, int land) {
            boolean isOfLands = row == ROW_OF_LANDS;
            size = isOfLands ? house.lands() : house.parties();
            postTop = house.heads[House.POST_TOP];
            postBottom = house.heads[House.POST_BOTTOM];
            for (int i = 0; i < size; i++) {
                claims[i] = isOfLands ? house.people[i] : votesOf(house, i, row, land);
                least[i] = house.least[nodeOf(isOfLands, i)];
                greatest[i] = house.greatest[nodeOf(isOfLands, i)];
            }
            if (!isOfLands) {
                putBehindBar(house.heads[House.BAR_TOP], house.heads[House.BAR_BOTTOM]);
            }
        }

        private static long votesOf(House house, int party, int row, int land) {
            if (row == ROW_OF_LAND) {
                return house.votes[cellOf(party, land)];
            }
            long sum = 0;
            for (int l = 0; l < house.lands(); l++) {
                sum += house.votes[cellOf(party, l)];
            }
            return sum;
        }

        private void putBehindBar(int barTop, int barBottom) {
            long all = sumOfClaims();
            for (int i = 0; i < size; i++) {
                if (claims[i] * barBottom < barTop * all) {
                    claims[i] = 0;
                }
            }
        }

        long sumOfClaims() {
            long sum = 0;
            for (int i = 0; i < size; i++) {
                sum += claims[i];
            }
            return sum;
        }

        /** The bit of one in a set: the first one has the highest, so that greater sets stand ahead in order. */
        private static int bitOf(int index) {
            return 1 << MAX_PARTIES - 1 - index;
        }

        /** Puts all results into a row of numbers, and tells how many there are. */
        int dealAll(int rule, int house, int[] into) {
            int results = 0;
            if (isDealt(rule, house)) {
                for (int set = (1 << MAX_PARTIES) - 1; set >= 0 && results < MAX_RESULTS; set--) {
                    if ((set & ~alike) == 0 && Integer.bitCount(set) == left) {
                        for (int i = 0; i < size; i++) {
                            int extra = (set & bitOf(i)) != 0 ? 1 : 0;
                            into[House.SEATS + results * MAX_PARTIES + i] = seats[i] + extra;
                        }
                        results++;
                    }
                }
            }
            into[House.RESULTS] = results;
            into[House.SIZE] = size;
            return results;
        }

        private void putFirst() {
            int more = left;
            for (int i = 0; i < size; i++) {
                boolean isExtra = more > 0 && (alike & bitOf(i)) != 0;
                first[i] = seats[i] + (isExtra ? 1 : 0);
                more -= isExtra ? 1 : 0;
            }
        }

        /** Deals a house out, up to the choice among alike next ones, and puts the first result. */
        private boolean isDealt(int rule, int house) {
            boolean isByQuota = rule >= FIRST_QUOTA_RULE;
            if (isByQuota ? sumOfClaims() == 0 : !isWithinBounds(house)) {
                return false;
            }
            if (isByQuota) {
                dealWholes(house);
                dealRests(rule);
            } else {
                dealLeast(house);
                dealNext(rule);
            }
            putFirst();
            return true;
        }

        private void dealLeast(int house) {
            left = house;
            for (int i = 0; i < size; i++) {
                seats[i] = least[i];
                left -= least[i];
            }
        }

        private boolean isWithinBounds(int house) {
            int low = 0;
            int high = 0;
            for (int i = 0; i < size; i++) {
                low += least[i];
                high += claims[i] > 0 ? greatest[i] : least[i];
            }
            return house >= low && house <= high;
        }

        /** Gives whole groups of alike next seats, until the next group is too many for what is left. */
        private void dealNext(int rule) {
            alike = 0;
            for (int step = 0; step < MAX_HOUSE && left > 0; step++) {
                alike = nextByQuotients(rule);
                if (!isGroupGiven()) {
                    return;
                }
            }
        }

        private boolean isGroupGiven() {
            int many = Integer.bitCount(alike);
            if (many == 0 || many > left) {
                return false;
            }
            for (int i = 0; i < size; i++) {
                seats[i] += (alike & bitOf(i)) != 0 ? 1 : 0;
            }
            left -= many;
            alike = 0;
            return true;
        }

        private int nextByQuotients(int rule) {
            int group = 0;
            int best = NONE;
            for (int i = 0; i < size; i++) {
                if (claims[i] > 0 && seats[i] < greatest[i]) {
                    int order = best == NONE ? 1 : Long.compare(quotientTop(rule, i) * quotientBottom(rule, best),
                            quotientTop(rule, best) * quotientBottom(rule, i));
                    group = order > 0 ? bitOf(i) : order == 0 ? group | bitOf(i) : group;
                    best = order > 0 ? i : best;
                }
            }
            return group;
        }

        /** The quotient (of rule 2: its square) is top / bottom; a bottom of 0 makes it more than all numbers. */
        private long quotientTop(int rule, int i) {
            return rule == 0 ? claims[i] : rule == 1 ? claims[i] * (2 * seats[i] + 1) : claims[i] * claims[i];
        }

        private long quotientBottom(int rule, int i) {
            long n = seats[i];
            return rule == 0 ? n * postBottom + postTop : rule == 1 ? 2 * n * (n + 1) : n * (n + 1);
        }

        private void dealWholes(int house) {
            long all = sumOfClaims();
            left = house;
            for (int i = 0; i < size && all > 0; i++) {
                long share = claims[i] * house;
                seats[i] = (int) (share / all);
                rests[i] = share % all;
                left -= seats[i];
            }
        }

        private void dealRests(int rule) {
            alike = 0;
            for (int step = 0; step < MAX_PARTIES && left > 0; step++) {
                alike = nextByRests(rule);
                int group = alike;
                if (!isGroupGiven()) {
                    return;
                }
                dropRests(group);
            }
        }

        private void dropRests(int group) {
            for (int i = 0; i < size; i++) {
                rests[i] = (group & bitOf(i)) != 0 ? 0 : rests[i];
            }
        }

        private int nextByRests(int rule) {
            int group = 0;
            int best = NONE;
            for (int i = 0; i < size; i++) {
                if (rests[i] > 0) {
                    long mine = rests[i] * (rule == FIRST_QUOTA_RULE || best == NONE ? 1 : claims[best]);
                    long its = best == NONE ? 0 : rests[best] * (rule == FIRST_QUOTA_RULE ? 1 : claims[i]);
                    group = mine > its ? bitOf(i) : mine == its ? group | bitOf(i) : group;
                    best = mine > its ? i : best;
                }
            }
            return group;
        }

        /** Keeps the first result of a house, if there is one, for the laws to compare with. */
        boolean isKept(int rule, int house) {
            boolean isThere = isDealt(rule, house);
            keepFirst();
            return isThere;
        }

        private void keepFirst() {
            for (int i = 0; i < size; i++) {
                before[i] = first[i];
            }
        }

        /** The first case for which a law is broken, as promise 18 tells it, or NONE. */
        int breachOfGrowth(int rule, int house) {
            boolean wasDealt = isDealt(rule, 1);
            for (int h = 1; h < house; h++) {
                keepFirst();
                boolean isThere = isDealt(rule, h + 1);
                for (int i = 0; i < size && wasDealt && isThere; i++) {
                    if (first[i] < before[i]) {
                        return 1000 * h + i;
                    }
                }
                wasDealt = isThere;
            }
            return NONE;
        }

        int breachOfJoining(int rule, int house) {
            for (int a = 0; a < size; a++) {
                for (int b = a + 1; b < size; b++) {
                    long claim = claims[a];
                    long joined = claims[b];
                    if (claim > 0 && joined > 0) {
                        claims[a] = claim + joined;
                        claims[b] = 0;
                        boolean isBroken = isDealt(rule, house) && first[a] < before[a] + before[b];
                        claims[a] = claim;
                        claims[b] = joined;
                        if (isBroken) {
                            return 1000 * a + b;
                        }
                    }
                }
            }
            return NONE;
        }

        int breachOfLeaving(int rule, int house) {
            for (int n = 0; n < size; n++) {
                long claim = claims[n];
                if (claim > 0 && before[n] > 0 && before[n] < house) {
                    claims[n] = 0;
                    boolean isThere = isDealt(rule, house - before[n]);
                    claims[n] = claim;
                    for (int i = 0; i < size && isThere; i++) {
                        if (i != n && first[i] != before[i]) {
                            return 1000 * n + i;
                        }
                    }
                }
            }
            return NONE;
        }

        int breachOfGaining(int rule, int house) {
            for (int a = 0; a < size; a++) {
                for (int b = 0; b < size; b++) {
                    if (a != b && isGainAgainst(rule, house, a, b)) {
                        return 1000 * a + b;
                    }
                }
            }
            return NONE;
        }

        private boolean isGainAgainst(int rule, int house, int a, int b) {
            long claim = claims[a];
            long other = claims[b];
            long more = claim * 11 / 10 - claim;
            if (claim == 0 || other == 0 || more * other <= claim) {
                return false;
            }
            claims[a] = claim + more;
            claims[b] = other + 1;
            boolean isBroken = isDealt(rule, house) && first[a] < before[a] && first[b] > before[b];
            claims[a] = claim;
            claims[b] = other;
            return isBroken;
        }

        /** What each party has by the lands' own seats (section 6). */
        void findFloors(House house, int rule) {
            for (int i = 0; i < MAX_PARTIES; i++) {
                floors[i] = 0;
            }
            for (int land = 0; land < house.lands(); land++) {
                int own = house.sums[nodeOf(true, land)];
                line(house, ROW_OF_LAND, land);
                if (own > 0 && isDealt(rule, own)) {
                    for (int i = 0; i < size; i++) {
                        floors[i] += first[i];
                    }
                }
            }
        }

        int evenedHouse(int rule, int base) {
            boolean isBegun = false;
            for (int house = base; house <= MAX_HOUSE; house++) {
                isBegun = isGrown(rule, house, isBegun);
                if (isBegun && isAboveFloors()) {
                    return house;
                }
            }
            return NONE;
        }

        /** A divisor rule's result for the house before is gone on with; else each house is dealt out anew. */
        private boolean isGrown(int rule, int house, boolean isBegun) {
            if (rule >= FIRST_QUOTA_RULE || !isBegun) {
                return isDealt(rule, house);
            }
            if (!isWithinBounds(house)) {
                return false;
            }
            left++;
            dealNext(rule);
            putFirst();
            return true;
        }

        private boolean isAboveFloors() {
            for (int i = 0; i < size; i++) {
                if (first[i] < floors[i]) {
                    return false;
                }
            }
            return true;
        }

        int overhang(int rule, int base) {
            if (!isDealt(rule, base)) {
                return NONE;
            }
            int sum = 0;
            for (int i = 0; i < size; i++) {
                sum += floors[i] > first[i] ? floors[i] - first[i] : 0;
            }
            return sum;
        }
    }

    /**
     * Least products along the ways through a table. A way goes from a party to a land by a cell with votes v that
     * can get one seat more, times s(x) / v, and from a land to a party by a cell that can lose one, times
     * v / s(x - 1). All s are multiplied by the denominator of t, which cancels out between two parties.
     *
     * <p>From the first party of a block, the product to a land is its greatest factor (times that denominator),
     * and the one to a party is 1 by its least factor: the bounds of the factors in section 4 are just these ways.
     */
    private static final class Paths {
        final int[] votes = new int[MAX_CELLS];
        final int[] cells = new int[MAX_CELLS];
        int parties;
        int lands;
        private int postTop;
        int postBottom;
        final Big[] top = new Big[MAX_NODES];
        final Big[] bottom = new Big[MAX_NODES];
        final int[] from = new int[MAX_NODES];
        /** The set of nodes that were reached, and that of those which no way may go to. */
        int reached;
        int closed;
        private final Big newTop = new Big();
        private final Big newBottom = new Big();
        private final Big mine = new Big();
        private final Big its = new Big();

        Paths() {
            for (int node = 0; node < MAX_NODES; node++) {
                top[node] = new Big();
                bottom[node] = new Big();
            }
        }

        /** Takes over what a fill was made of; the cells become empty. */
        void take(House house) {
            parties = house.filled[House.FILLED_PARTIES];
            lands = house.filled[House.FILLED_LANDS];
            postTop = house.filled[House.FILLED_POST_TOP];
            postBottom = house.filled[House.FILLED_POST_BOTTOM];
            for (int cell = 0; cell < MAX_CELLS; cell++) {
                votes[cell] = house.filledVotes[cell];
                cells[cell] = 0;
            }
        }

        int post(int n) {
            return n * postBottom + postTop;
        }

        void clear() {
            reached = 0;
            closed = 0;
        }

        void start(int party) {
            top[party].put(1);
            bottom[party].put(1);
            from[party] = NONE;
            reached |= 1 << party;
        }

        /** Goes on until no way is shorter: by the laws of right tables no round trip has a product below 1. */
        void spread() {
            boolean isShorter = true;
            for (int turn = 0; turn <= MAX_NODES && isShorter; turn++) {
                isShorter = false;
                for (int cell = 0; cell < MAX_CELLS; cell++) {
                    int party = cell / MAX_LANDS;
                    int land = MAX_PARTIES + cell % MAX_LANDS;
                    int seats = cells[cell];
                    if (isOpen(party, land, votes[cell])) {
                        boolean isThere = isStepShorter(party, land, post(seats), votes[cell]);
                        boolean isBack = seats > 0 && isStepShorter(land, party, votes[cell], post(seats - 1));
                        isShorter = isShorter || isThere || isBack;
                    }
                }
            }
        }

        private boolean isOpen(int party, int land, int votes) {
            return party < parties && land - MAX_PARTIES < lands && votes > 0 && (closed >> land & 1) == 0;
        }

        private boolean isStepShorter(int start, int end, int by, int per) {
            if ((reached >> start & 1) == 0) {
                return false;
            }
            newTop.take(top[start]);
            newTop.times(by);
            newBottom.take(bottom[start]);
            newBottom.times(per);
            if ((reached >> end & 1) != 0) {
                mine.product(newTop, bottom[end]);
                its.product(top[end], newBottom);
                if (mine.against(its) >= 0) {
                    return false;
                }
            }
            top[end].take(newTop);
            bottom[end].take(newBottom);
            from[end] = start;
            reached |= 1 << end;
            return true;
        }

        /** Compares two fractions. */
        int compare(Big oneTop, Big oneBottom, Big otherTop, Big otherBottom) {
            mine.product(oneTop, otherBottom);
            its.product(otherTop, oneBottom);
            return mine.against(its);
        }

        /** How votes times both factors stand to s(n): below 0 for less, 0 for the same, above 0 for more. */
        int againstPost(int party, int land, int n) {
            int node = nodeOf(true, land);
            newTop.product(top[node], bottom[party]);
            newTop.times(votes[cellOf(party, land)]);
            newBottom.product(bottom[node], top[party]);
            newBottom.times(post(n));
            return newTop.against(newBottom);
        }
    }

    /** Fills tables by the sums of parties and lands at once, and finds their factors (section 4). */
    private static final class Filler {
        private final Paths paths = new Paths();
        private final int[] need = new int[MAX_NODES];
        /** Of a cell that has n or n + 1 seats in right tables as its quotient is s(n): n; NONE of others. */
        private final int[] low = new int[MAX_CELLS];
        private final int[] from = new int[MAX_NODES];
        private final int[] queue = new int[MAX_NODES];
        private final Big shareTop = new Big();
        private final Big shareBottom = new Big();
        private final Big newTop = new Big();
        private final Big newBottom = new Big();
        private final Big product = new Big();

        void fillAll(House house) {
            house.filled[House.TABLES] = 0;
            house.filled[House.FILLED_PARTIES] = house.parties();
            house.filled[House.FILLED_LANDS] = house.lands();
            house.filled[House.FILLED_POST_TOP] = house.heads[House.POST_TOP];
            house.filled[House.FILLED_POST_BOTTOM] = house.heads[House.POST_BOTTOM];
            for (int cell = 0; cell < MAX_CELLS; cell++) {
                house.filledVotes[cell] = house.votes[cell];
            }
            if (!isCut(house)) {
                paths.take(house);
                fillFirst(house);
                findBlocks();
                findTies();
                tellAll(house);
            }
        }

        private boolean isCut(House house) {
            int everyParty = (1 << house.parties()) - 1;
            int everyLand = (1 << house.lands()) - 1;
            int wanted = house.sumOf(false);
            int there = house.sumOf(true);
            if (wanted != there) {
                putCut(house, 1, everyParty, everyLand, wanted, there);
                return true;
            }
            for (int set = 1; set <= everyParty; set++) {
                int lands = landsOf(house, set);
                int wants = sumOfSet(house, set, false);
                int has = sumOfSet(house, lands, true);
                if (wants > has) {
                    putCut(house, 2, set, lands, wants, has);
                    return true;
                }
            }
            putCut(house, 0, 0, 0, 0, 0);
            return false;
        }

        private static void putCut(House house, int kind, int parties, int lands, int wants, int has) {
            house.filled[House.CUT] = kind;
            house.filled[House.CUT + 1] = parties;
            house.filled[House.CUT + 2] = lands;
            house.filled[House.CUT + 3] = wants;
            house.filled[House.CUT + 4] = has;
        }

        private static int landsOf(House house, int set) {
            int lands = 0;
            for (int party = 0; party < house.parties(); party++) {
                for (int land = 0; land < house.lands(); land++) {
                    if ((set >> party & 1) != 0 && house.votes[cellOf(party, land)] > 0) {
                        lands |= 1 << land;
                    }
                }
            }
            return lands;
        }

        private static int sumOfSet(House house, int set, boolean isLand) {
            int there = isLand ? house.lands() : house.parties();
            int sum = 0;
            for (int i = 0; i < there; i++) {
                sum += (set >> i & 1) != 0 ? house.sums[nodeOf(isLand, i)] : 0;
            }
            return sum;
        }

        /** Gives seat by seat by the shortest way, which keeps the table right for what is given as yet. */
        private void fillFirst(House house) {
            for (int node = 0; node < MAX_NODES; node++) {
                need[node] = isThere(node) ? house.sums[node] : 0;
            }
            int seats = house.sumOf(false);
            for (int seat = 0; seat < seats; seat++) {
                paths.clear();
                for (int party = 0; party < paths.parties; party++) {
                    if (need[party] > 0) {
                        paths.start(party);
                    }
                }
                paths.spread();
                giveSeat();
            }
        }

        private boolean isThere(int node) {
            return node < MAX_PARTIES ? node < paths.parties : node - MAX_PARTIES < paths.lands;
        }

        private void giveSeat() {
            int end = NONE;
            for (int node = MAX_PARTIES; node < MAX_NODES; node++) {
                if (need[node] > 0 && (paths.reached >> node & 1) != 0 && (end == NONE
                        || paths.compare(paths.top[node], paths.bottom[node], paths.top[end], paths.bottom[end]) < 0)) {
                    end = node;
                }
            }
            if (end == NONE) {
                return;
            }
            need[end]--;
            int node = end;
            for (int step = 0; step < MAX_NODES && paths.from[node] != NONE; step++) {
                int ahead = paths.from[node];
                paths.cells[cellBetween(ahead, node)] += ahead < MAX_PARTIES ? 1 : -1;
                node = ahead;
            }
            need[node]--;
        }

        private static int cellBetween(int one, int other) {
            int party = one < other ? one : other;
            int land = (one < other ? other : one) - MAX_PARTIES;
            return party * MAX_LANDS + land;
        }

        void findFactors(House house, int table) {
            paths.take(house);
            for (int cell = 0; cell < MAX_CELLS; cell++) {
                paths.cells[cell] = house.cells[table * MAX_CELLS + cell];
            }
            findBlocks();
        }

        private void findBlocks() {
            paths.clear();
            for (int party = 0; party < paths.parties; party++) {
                if (seatsOf(party) > 0 && (paths.reached >> party & 1) == 0) {
                    int ahead = paths.reached;
                    paths.closed = ahead >> MAX_PARTIES << MAX_PARTIES;
                    paths.start(party);
                    paths.spread();
                    putBelow(ahead, paths.reached & ~ahead);
                }
            }
        }

        private int seatsOf(int party) {
            int sum = 0;
            for (int land = 0; land < paths.lands; land++) {
                sum += paths.cells[cellOf(party, land)];
            }
            return sum;
        }

        /** Multiplies the parties of a block by the k of section 4, and divides its lands by it. */
        private void putBelow(int ahead, int block) {
            shareTop.put(1);
            shareBottom.put(1);
            for (int party = 0; party < paths.parties; party++) {
                for (int land = 0; land < paths.lands; land++) {
                    boolean isBetween = (block >> party & 1) != 0 && (ahead >> nodeOf(true, land) & 1) != 0;
                    if (isBetween && paths.votes[cellOf(party, land)] > 0) {
                        narrow(party, land);
                    }
                }
            }
            for (int node = 0; node < MAX_NODES; node++) {
                if ((block >> node & 1) != 0) {
                    product.product(paths.top[node], shareBottom);
                    paths.top[node].take(product);
                    product.product(paths.bottom[node], shareTop);
                    paths.bottom[node].take(product);
                }
            }
        }

        /** Lowers k to what keeps one cell at s(0) at most. */
        private void narrow(int party, int land) {
            int node = nodeOf(true, land);
            newTop.product(paths.top[party], paths.bottom[node]);
            newTop.times(paths.post(0));
            newBottom.product(paths.bottom[party], paths.top[node]);
            newBottom.times(paths.votes[cellOf(party, land)]);
            if (paths.compare(newTop, newBottom, shareTop, shareBottom) < 0) {
                shareTop.take(newTop);
                shareBottom.take(newBottom);
            }
        }

        void putFactor(int node, Fraction into) {
            boolean isLand = node >= MAX_PARTIES;
            if ((paths.reached >> node & 1) == 0) {
                into.top.put(isLand ? 1 : 0);
                into.bottom.put(1);
            } else if (isLand) {
                into.top.take(paths.top[node]);
                into.bottom.take(paths.bottom[node]);
                into.bottom.times(paths.postBottom);
            } else {
                into.top.take(paths.bottom[node]);
                into.bottom.take(paths.top[node]);
            }
        }

        /** Whether the factors that were found make the table right. */
        boolean isRight() {
            for (int party = 0; party < paths.parties; party++) {
                for (int land = 0; land < paths.lands; land++) {
                    int seats = paths.cells[cellOf(party, land)];
                    boolean isEmpty = paths.votes[cellOf(party, land)] == 0 || (paths.reached >> party & 1) == 0;
                    if (isEmpty ? seats > 0 : !isBetweenPosts(party, land, seats)) {
                        return false;
                    }
                }
            }
            return true;
        }

        private boolean isBetweenPosts(int party, int land, int seats) {
            return paths.againstPost(party, land, seats) <= 0
                    && (seats == 0 || paths.againstPost(party, land, seats - 1) >= 0);
        }

        private void findTies() {
            for (int cell = 0; cell < MAX_CELLS; cell++) {
                low[cell] = NONE;
            }
            for (int party = 0; party < paths.parties; party++) {
                for (int land = 0; land < paths.lands; land++) {
                    int cell = cellOf(party, land);
                    if (paths.votes[cell] > 0 && (paths.reached >> party & 1) != 0) {
                        low[cell] = lowOfTie(party, land, paths.cells[cell]);
                    }
                }
            }
        }

        private int lowOfTie(int party, int land, int seats) {
            if (paths.againstPost(party, land, seats) == 0) {
                return seats;
            }
            return seats > 0 && paths.againstPost(party, land, seats - 1) == 0 ? seats - 1 : NONE;
        }

        /**
         * Tells the tables in their order. The factors of one right table are those of each other one, so that only
         * cells with ties differ: the next table is lower in the last cell that can be, and then as high as can be.
         */
        private void tellAll(House house) {
            int lowered = NONE;
            for (int table = 0; table < MAX_TABLES; table++) {
                raiseFrom(lowered + 1);
                for (int cell = 0; cell < MAX_CELLS; cell++) {
                    house.cells[table * MAX_CELLS + cell] = paths.cells[cell];
                }
                house.filled[House.TABLES] = table + 1;
                lowered = lowerLast();
                if (lowered == NONE) {
                    return;
                }
            }
        }

        private void raiseFrom(int first) {
            for (int cell = first; cell < MAX_CELLS; cell++) {
                if (isLow(cell)) {
                    isTurned(cell);
                }
            }
        }

        /** Lowers the last cell that can be, and tells which one it was. */
        private int lowerLast() {
            for (int cell = MAX_CELLS - 1; cell >= 0; cell--) {
                if (isHigh(cell) && isTurned(cell)) {
                    return cell;
                }
            }
            return NONE;
        }

        private boolean isLow(int cell) {
            return low[cell] != NONE && paths.cells[cell] == low[cell];
        }

        private boolean isHigh(int cell) {
            return low[cell] != NONE && paths.cells[cell] == low[cell] + 1;
        }

        /** Turns a cell from low to high or back, if cells behind it can make up for that. */
        private boolean isTurned(int cell) {
            int party = cell / MAX_LANDS;
            int land = nodeOf(true, cell % MAX_LANDS);
            boolean isRaised = isLow(cell);
            int start = isRaised ? land : party;
            int end = isRaised ? party : land;
            if (!isWayFound(start, end, cell)) {
                return false;
            }
            paths.cells[cell] += isRaised ? 1 : -1;
            int node = end;
            for (int step = 0; step < MAX_NODES && node != start; step++) {
                int ahead = from[node];
                paths.cells[cellBetween(ahead, node)] += ahead < MAX_PARTIES ? 1 : -1;
                node = ahead;
            }
            return true;
        }

        /** Looks for a way on which each party gets back in a land what it lost in another one. */
        private boolean isWayFound(int start, int end, int behind) {
            int found = 1 << start;
            int filled = 1;
            queue[0] = start;
            for (int next = 0; next < filled && (found >> end & 1) == 0; next++) {
                int node = queue[next];
                boolean isParty = node < MAX_PARTIES;
                for (int other = isParty ? MAX_PARTIES : 0; other < (isParty ? MAX_NODES : MAX_PARTIES); other++) {
                    int cell = cellBetween(node, other);
                    if ((found >> other & 1) == 0 && cell > behind && (isParty ? isLow(cell) : isHigh(cell))) {
                        found |= 1 << other;
                        from[other] = node;
                        queue[filled] = other;
                        filled++;
                    }
                }
            }
            return (found >> end & 1) != 0;
        }
    }

    /** Counts ranked ballots (section 7), and takes them as voters' orders for agendas (section 11). */
    private static final class Ballots {
        private static final int NOBODY = House.NOBODY;
        private static final int AT_FIRST = -1;
        /** What each ballot is worth, what stays with each candidate, and all votes: over the one number whole. */
        private final Big[] worth = new Big[MAX_BALLOTS];
        private final Big[] kept = new Big[MAX_CANDIDATES];
        private final Big[] sums = new Big[MAX_CANDIDATES + 1];
        private final Big whole = new Big();
        private final Big one = new Big();
        private final Big other = new Big();
        private final Big rest = new Big();
        private final Big part = new Big();
        /** Of each ballot: its row, with whom it lies, at which place of the row, and since which round. */
        private final int[] choices = new int[MAX_BALLOTS * MAX_CANDIDATES];
        private final int[] holder = new int[MAX_BALLOTS];
        private final int[] place = new int[MAX_BALLOTS];
        private final int[] since = new int[MAX_BALLOTS];
        private int hopeful;
        private int elected;
        private int quotaTop;
        private int quotaBottom;
        private boolean isQuotaPassed;
        /** The sets of those whom each candidate beats, and the agendas that bring the one that was asked for. */
        private final int[] beaten = new int[MAX_CANDIDATES];
        int agendas;
        int firstAgenda;

        Ballots() {
            for (int i = 0; i < MAX_BALLOTS; i++) {
                worth[i] = new Big();
            }
            for (int i = 0; i < MAX_CANDIDATES; i++) {
                kept[i] = new Big();
            }
            for (int i = 0; i <= MAX_CANDIDATES; i++) {
                sums[i] = new Big();
            }
        }

        /** The set of candidates that a row's digits name, or NONE if it is no row without doubles. */
        static int setOf(int row, int candidates) {
            if (row < 0) {
                return NONE;
            }
            int set = 0;
            for (int rest = row; rest > 0; rest /= 10) {
                int candidate = rest % 10 - 1;
                if (candidate < 0 || candidate >= candidates || (set >> candidate & 1) != 0) {
                    return NONE;
                }
                set |= 1 << candidate;
            }
            return set;
        }

        private static int firstOf(int row) {
            int first = row;
            for (int rest = row; rest > 0; rest /= 10) {
                first = rest;
            }
            return first - 1;
        }

        private static int allVotes(House house) {
            int all = 0;
            for (int b = 0; b < house.ballots(); b++) {
                all += house.many[b];
            }
            return all;
        }

        void runCount(House house, int seats, int rule, int moving) {
            start(house, seats, rule);
            boolean isOver = false;
            for (int round = 0; round < House.MAX_ROUNDS && !isOver; round++) {
                keepRound(house, round);
                isOver = isLastRound(house, round, seats, moving);
            }
        }

        private void start(House house, int seats, int rule) {
            int all = allVotes(house);
            house.counted[House.ALL_VOTES] = all;
            whole.put(1);
            hopeful = (1 << house.candidates()) - 1;
            elected = 0;
            isQuotaPassed = rule == 0;
            quotaTop = rule == 1 ? all / (seats + 1) + 1 : all;
            quotaBottom = rule == 0 ? seats + 1 : rule == 1 ? 1 : seats;
            for (int c = 0; c < MAX_CANDIDATES; c++) {
                kept[c].put(0);
                house.counted[House.FATES + c] = 0;
            }
            for (int b = 0; b < house.ballots(); b++) {
                worth[b].put(house.many[b]);
                readRow(b, house.rows[b]);
                holder[b] = NOBODY;
                place[b] = -1;
                passBallot(b, AT_FIRST);
            }
        }

        private void readRow(int ballot, int row) {
            int many = 0;
            for (int rest = row; rest > 0; rest /= 10) {
                many++;
            }
            int digits = row;
            for (int k = MAX_CANDIDATES - 1; k >= 0; k--) {
                boolean isChoice = k < many;
                choices[ballot * MAX_CANDIDATES + k] = isChoice ? digits % 10 - 1 : NONE;
                digits = isChoice ? digits / 10 : digits;
            }
        }

        /** Lays a ballot with the next hopeful one of its row. */
        private void passBallot(int ballot, int round) {
            since[ballot] = round;
            for (int k = place[ballot] + 1; k < MAX_CANDIDATES; k++) {
                int choice = choices[ballot * MAX_CANDIDATES + k];
                if (choice >= 0 && isHopeful(choice)) {
                    holder[ballot] = choice;
                    place[ballot] = k;
                    return;
                }
            }
            holder[ballot] = NOBODY;
            place[ballot] = MAX_CANDIDATES;
        }

        private boolean isHopeful(int candidate) {
            return (hopeful >> candidate & 1) != 0;
        }

        private void keepRound(House house, int round) {
            for (int c = 0; c <= NOBODY; c++) {
                sums[c].put(0);
                if (c < NOBODY) {
                    sums[c].plus(kept[c]);
                }
            }
            for (int b = 0; b < house.ballots(); b++) {
                sums[holder[b]].plus(worth[b]);
            }
            for (int c = 0; c <= NOBODY; c++) {
                house.keepTally(round, c, sums[c]);
            }
            house.keepTally(round, House.WHOLE, whole);
            house.counted[House.ROUNDS] = round + 1;
        }

        private boolean isLastRound(House house, int round, int seats, int moving) {
            if (elected + Integer.bitCount(hopeful) <= seats) {
                for (int c = 0; c < MAX_CANDIDATES; c++) {
                    if (isHopeful(c)) {
                        choose(house, c);
                    }
                }
                return true;
            }
            int best = strongest();
            if (!isQuotaReached(best)) {
                drop(house, weakest(), round);
                return false;
            }
            choose(house, best);
            if (elected < seats && moving != 2) {
                passSurplus(house, best, round, moving == 1);
            }
            return elected >= seats;
        }

        private void choose(House house, int candidate) {
            elected++;
            hopeful &= ~(1 << candidate);
            house.counted[House.FATES + candidate] = elected;
        }

        private int strongest() {
            int best = NOBODY;
            for (int c = 0; c < MAX_CANDIDATES; c++) {
                if (isHopeful(c) && (best == NOBODY || sums[c].against(sums[best]) > 0)) {
                    best = c;
                }
            }
            return best;
        }

        private int weakest() {
            int worst = NOBODY;
            for (int c = 0; c < MAX_CANDIDATES; c++) {
                if (isHopeful(c) && (worst == NOBODY || sums[c].against(sums[worst]) <= 0)) {
                    worst = c;
                }
            }
            return worst;
        }

        private boolean isQuotaReached(int candidate) {
            one.take(sums[candidate]);
            one.times(quotaBottom);
            other.take(whole);
            other.times(quotaTop);
            return one.against(other) >= (isQuotaPassed ? 1 : 0);
        }

        private void drop(House house, int candidate, int round) {
            hopeful &= ~(1 << candidate);
            house.counted[House.FATES + candidate] = -1 - round;
            for (int b = 0; b < house.ballots(); b++) {
                if (holder[b] == candidate) {
                    passBallot(b, round);
                }
            }
        }

        private void passSurplus(House house, int from, int round, boolean isLatestOnly) {
            int latest = isLatestOnly ? latestRound(house, from) : AT_FIRST;
            one.take(sums[from]);
            one.times(quotaBottom);
            other.take(whole);
            other.times(quotaTop);
            if (one.against(other) <= 0) {
                return;
            }
            one.minus(other);
            other.put(0);
            for (int b = 0; b < house.ballots(); b++) {
                if (holder[b] == from && since[b] >= latest) {
                    other.plus(worth[b]);
                }
            }
            if (other.isZero()) {
                return;
            }
            other.times(quotaBottom);
            if (one.against(other) < 0) {
                split(house, from, latest);
            }
            for (int b = 0; b < house.ballots(); b++) {
                if (holder[b] == from && since[b] >= latest) {
                    passBallot(b, round);
                }
            }
        }

        private int latestRound(House house, int candidate) {
            int latest = AT_FIRST;
            for (int b = 0; b < house.ballots(); b++) {
                latest = holder[b] == candidate && since[b] > latest ? since[b] : latest;
            }
            return latest;
        }

        /** Leaves each ballot that moves worth one / other of what it was; all else is told over the new whole. */
        private void split(House house, int from, int latest) {
            rest.take(other);
            rest.minus(one);
            for (int c = 0; c < MAX_CANDIDATES; c++) {
                multiply(kept[c], other);
            }
            for (int b = 0; b < house.ballots(); b++) {
                boolean isMoved = holder[b] == from && since[b] >= latest;
                if (isMoved) {
                    part.product(worth[b], rest);
                    kept[from].plus(part);
                }
                multiply(worth[b], isMoved ? one : other);
            }
            multiply(whole, other);
        }

        private void multiply(Big number, Big by) {
            part.product(number, by);
            number.take(part);
        }

        /** Whether the votes of a round are all votes together. */
        boolean isWhole(House house, int round) {
            one.put(0);
            for (int c = 0; c <= NOBODY; c++) {
                house.readTally(round, c, other);
                one.plus(other);
            }
            house.readTally(round, House.WHOLE, other);
            other.times(house.counted[House.ALL_VOTES]);
            return one.against(other) == 0;
        }

        int openPlace(House house, int wanted, int numerator, int denominator) {
            int all = allVotes(house);
            int listed = 0;
            int found = NONE;
            for (int at = 0; at <= wanted; at++) {
                found = NONE;
                int most = NONE;
                for (int c = 0; c < house.candidates(); c++) {
                    int votes = personalVotes(house, c);
                    int rank = votes * denominator >= numerator * all ? votes : NONE;
                    if ((listed >> c & 1) == 0 && (found == NONE || rank > most)) {
                        found = c;
                        most = rank;
                    }
                }
                listed |= found == NONE ? 0 : 1 << found;
            }
            return found;
        }

        private static int personalVotes(House house, int candidate) {
            int votes = 0;
            for (int b = 0; b < house.ballots(); b++) {
                votes += firstOf(house.rows[b]) == candidate ? house.many[b] : 0;
            }
            return votes;
        }

        /** By how many voters more have one above the other. */
        static int leadOf(House house, int one, int other) {
            int lead = 0;
            for (int b = 0; b < house.ballots(); b++) {
                int height = Integer.compare(heightIn(house.rows[b], one), heightIn(house.rows[b], other));
                lead += height > 0 ? house.many[b] : height < 0 ? -house.many[b] : 0;
            }
            return lead;
        }

        /** The place of a candidate in a row, counted from its end; 0 if it does not stand there. */
        private static int heightIn(int row, int candidate) {
            int height = 0;
            for (int rest = row; rest > 0; rest /= 10) {
                height++;
                if (rest % 10 - 1 == candidate) {
                    return height;
                }
            }
            return 0;
        }

        private void findBeaten(House house) {
            for (int a = 0; a < house.candidates(); a++) {
                beaten[a] = 0;
                for (int b = 0; b < house.candidates(); b++) {
                    beaten[a] |= leadOf(house, a, b) > 0 ? 1 << b : 0;
                }
            }
        }

        private int stronger(int there, int next) {
            return (beaten[next] >> there & 1) != 0 ? next : there;
        }

        int leftBy(House house, int agenda) {
            findBeaten(house);
            readRow(0, agenda);
            int left = choices[0];
            for (int k = 1; k < house.candidates(); k++) {
                left = stronger(left, choices[k]);
            }
            return left;
        }

        void findAgendas(House house, int wanted) {
            findBeaten(house);
            agendas = 0;
            firstAgenda = 0;
            addAgendas(this, house.candidates(), 0, 0, NONE, wanted);
        }

        /** Goes on with an agenda in all ways; each level puts one more candidate into the set of those in it. */
        private static void addAgendas(Ballots by, int candidates, int inIt, int agenda, int left, int wanted) {
            if (Integer.bitCount(inIt) >= candidates) {
                by.firstAgenda = left == wanted && by.agendas == 0 ? agenda : by.firstAgenda;
                by.agendas += left == wanted ? 1 : 0;
                return;
            }
            for (int c = 0; c < candidates; c++) {
                if ((inIt >> c & 1) == 0) {
                    int next = left == NONE ? c : by.stronger(left, c);
                    addAgendas(by, candidates, inIt | 1 << c, agenda * 10 + c + 1, next, wanted);
                }
            }
        }
    }

    /** Looks at all maps of districts (section 8). */
    private static final class Maps {
        private final boolean[] isOnePiece = new boolean[1 << MAX_BLOCKS];
        private final int[] district = new int[MAX_BLOCKS];
        private final int[] sets = new int[3];
        final int[] told = new int[MAX_BLOCKS];
        int many;
        int spread;
        int rim;
        int alike;
        int fewestRed;
        int mostRed;

        /** Goes through all maps in their order; what red wins is told of those with a spread up to the limit. */
        void survey(House house, int districts, int limit) {
            many = 0;
            fewestRed = NONE;
            mostRed = NONE;
            int blocks = house.blocks();
            if (blocks == 0) {
                return;
            }
            int codes = 1;
            for (int block = 1; block < blocks; block++) {
                codes *= districts;
            }
            findPieces(house);
            for (int code = 0; code < codes; code++) {
                if (isMap(blocks, districts, code)) {
                    look(house, districts, limit);
                }
            }
        }

        private void findPieces(House house) {
            for (int set = 1; set < 1 << house.blocks(); set++) {
                int piece = set & -set;
                for (int step = 0; step < house.blocks() && piece != set; step++) {
                    int grown = piece;
                    for (int block = 0; block < house.blocks(); block++) {
                        grown |= (piece >> block & 1) != 0 ? house.near[block] & set : 0;
                    }
                    piece = grown;
                }
                isOnePiece[set] = piece == set;
            }
        }

        /** Reads a code, the last block in its lowest digit; each district must begin behind those before it. */
        private boolean isMap(int blocks, int districts, int code) {
            int rest = code;
            for (int block = blocks - 1; block >= 0; block--) {
                district[block] = rest % districts;
                rest /= districts;
            }
            int used = 0;
            for (int block = 0; block < blocks; block++) {
                int here = district[block];
                if (here > used) {
                    return false;
                }
                sets[here] = here == used ? 1 << block : sets[here] | 1 << block;
                used += here == used ? 1 : 0;
            }
            boolean isWhole = used == districts;
            for (int d = 0; d < used; d++) {
                isWhole = isWhole && isOnePiece[sets[d]];
            }
            return isWhole;
        }

        private void look(House house, int districts, int limit) {
            many++;
            int itsSpread = spreadOf(house, districts);
            int itsRim = rimOf(house);
            boolean isBetter = many == 1 || itsSpread < spread || itsSpread == spread && itsRim < rim;
            if (isBetter) {
                spread = itsSpread;
                rim = itsRim;
                alike = 0;
                for (int block = 0; block < house.blocks(); block++) {
                    told[block] = district[block];
                }
            }
            alike += itsSpread == spread && itsRim == rim ? 1 : 0;
            if (itsSpread <= limit) {
                int red = redOf(house, districts);
                fewestRed = fewestRed == NONE || red < fewestRed ? red : fewestRed;
                mostRed = red > mostRed ? red : mostRed;
            }
        }

        /** The people (0), red (1) or blue (2) of a district together. */
        private static int sumOf(House house, int set, int what) {
            int sum = 0;
            for (int block = 0; block < house.blocks(); block++) {
                sum += (set >> block & 1) != 0 ? house.blocks[3 * block + what] : 0;
            }
            return sum;
        }

        private int spreadOf(House house, int districts) {
            int least = sumOf(house, sets[0], 0);
            int greatest = least;
            for (int d = 1; d < districts; d++) {
                int people = sumOf(house, sets[d], 0);
                least = people < least ? people : least;
                greatest = people > greatest ? people : greatest;
            }
            return greatest - least;
        }

        private int rimOf(House house) {
            int parted = 0;
            for (int one = 0; one < house.blocks(); one++) {
                for (int other = one + 1; other < house.blocks(); other++) {
                    boolean isNear = (house.near[one] >> other & 1) != 0;
                    parted += isNear && district[one] != district[other] ? 1 : 0;
                }
            }
            return parted;
        }

        private int redOf(House house, int districts) {
            int red = 0;
            for (int d = 0; d < districts; d++) {
                red += sumOf(house, sets[d], 1) > sumOf(house, sets[d], 2) ? 1 : 0;
            }
            return red;
        }
    }

    /** Finds the panels, and the lottery over them with the greatest like chance (section 9). */
    private static final class Panels {
        private static final int MAX_PANELS = 126;
        private static final int WIDTH = MAX_PERSONS + 1;
        private static final int MAX_STEPS = 100000;
        private final int[] panels = new int[MAX_PANELS];
        int many;
        long chanceTop;
        long chanceBottom;
        /**
         * The greatest sum of shares of the persons of whom each panel has 1 at most: the like chance is 1 by it.
         * One line for each panel and one for the sum, in whole numbers over the number whole.
         */
        private final long[] lines = new long[(MAX_PANELS + 1) * WIDTH];
        private long whole;
        /** Which variable each line and each column stands for; the lower number goes first, lest it go round. */
        private final int[] lineOf = new int[MAX_PANELS];
        private final int[] columnOf = new int[MAX_PERSONS];
        private int columns;

        void findPanels(House house, int size) {
            many = 0;
            for (int set = 0; set < 1 << house.persons(); set++) {
                if (Integer.bitCount(set) == size && many < MAX_PANELS && isAsWanted(house, set)) {
                    panels[many] = set;
                    many++;
                }
            }
        }

        private static boolean isAsWanted(House house, int set) {
            for (int mark = 0; mark < 3; mark++) {
                for (int value = 0; value < 3; value++) {
                    int wanted = house.wants[3 * mark + value];
                    int there = 0;
                    for (int person = 0; person < house.persons(); person++) {
                        there += (set >> person & 1) != 0 && house.marks[3 * person + mark] == value ? 1 : 0;
                    }
                    if (wanted != NONE && wanted != there) {
                        return false;
                    }
                }
            }
            return true;
        }

        int panelsWith(int person) {
            int with = 0;
            for (int i = 0; i < many; i++) {
                with += panels[i] >> person & 1;
            }
            return with;
        }

        void findLikeChance() {
            chanceTop = 0;
            chanceBottom = 1;
            if (many == 0) {
                return;
            }
            lineUp();
            for (int step = 0; step < MAX_STEPS; step++) {
                int column = nextColumn();
                int line = column == NONE ? NONE : nextLine(column);
                if (line == NONE) {
                    break;
                }
                swap(line, column);
            }
            chanceTop = whole;
            chanceBottom = lines[many * WIDTH + columns];
        }

        private void lineUp() {
            columns = 0;
            whole = 1;
            for (int person = 0; person < MAX_PERSONS; person++) {
                if (panelsWith(person) > 0) {
                    for (int i = 0; i < many; i++) {
                        lines[i * WIDTH + columns] = panels[i] >> person & 1;
                    }
                    lines[many * WIDTH + columns] = -1;
                    columnOf[columns] = columns;
                    columns++;
                }
            }
            for (int i = 0; i < many; i++) {
                lines[i * WIDTH + columns] = 1;
                lineOf[i] = MAX_PERSONS + i;
            }
            lines[many * WIDTH + columns] = 0;
        }

        private int nextColumn() {
            int best = NONE;
            for (int c = 0; c < columns; c++) {
                if (lines[many * WIDTH + c] < 0 && (best == NONE || columnOf[c] < columnOf[best])) {
                    best = c;
                }
            }
            return best;
        }

        private int nextLine(int column) {
            int best = NONE;
            for (int i = 0; i < many; i++) {
                long by = lines[i * WIDTH + column];
                if (by > 0) {
                    long mine = best == NONE ? 0 : lines[i * WIDTH + columns] * lines[best * WIDTH + column];
                    long its = best == NONE ? 1 : lines[best * WIDTH + columns] * by;
                    best = mine < its || mine == its && lineOf[i] < lineOf[best] ? i : best;
                }
            }
            return best;
        }

        /** Swaps a line's variable with a column's; all numbers stay whole, as they are determinants. */
        private void swap(int line, int column) {
            long pivot = lines[line * WIDTH + column];
            if (pivot == 0 || whole == 0) {
                return;
            }
            for (int i = 0; i <= many; i++) {
                long by = lines[i * WIDTH + column];
                for (int c = 0; c <= columns && i != line; c++) {
                    int at = i * WIDTH + c;
                    long here = lines[at] * pivot - by * lines[line * WIDTH + c];
                    lines[at] = c == column ? -by : here / whole;
                }
            }
            lines[line * WIDTH + column] = whole;
            whole = pivot;
            int variable = lineOf[line];
            lineOf[line] = columnOf[column];
            columnOf[column] = variable;
        }
    }

    /** Tells the power of weights (section 10). */
    private static final class Weights {
        private static final int MAX_SETS = 1 << MAX_PLAYERS;
        /** More than the weights of all players together. */
        private static final int MAX_WEIGHT = 1000000;
        private final int[] weights = new int[MAX_PLAYERS];
        private final boolean[] isWinning = new boolean[MAX_SETS];
        private int players;
        /** The players by their weights, the greatest first; and what each weighs more at least than the next. */
        private final int[] order = new int[MAX_PLAYERS];
        private final int[] gap = new int[MAX_PLAYERS];
        private final int[] trial = new int[MAX_PLAYERS];
        private int movable;

        void look(House house) {
            players = house.players();
            int sets = 1 << players;
            for (int player = 0; player < players; player++) {
                weights[player] = house.weights[player];
            }
            for (int set = 0; set < sets; set++) {
                isWinning[set] = weightOf(weights, set) >= house.heads[House.MAJORITY];
            }
        }

        private int weightOf(int[] by, int set) {
            int sum = 0;
            for (int player = 0; player < players; player++) {
                sum += (set >> player & 1) != 0 ? by[player] : 0;
            }
            return sum;
        }

        private boolean isSwing(int player, int set) {
            return (set >> player & 1) != 0 && isWinning[set] && !isWinning[set & ~(1 << player)];
        }

        private static int factorial(int number) {
            int product = 1;
            for (int i = 2; i <= number; i++) {
                product *= i;
            }
            return product;
        }

        /** The swings of a player, or the orders in which it is the one that makes those ahead of it win. */
        int partOfPower(int player, boolean bySwings) {
            int part = 0;
            for (int set = 0; set < 1 << players; set++) {
                if (isSwing(player, set)) {
                    int size = Integer.bitCount(set);
                    part += bySwings ? 1 : factorial(size - 1) * factorial(players - size);
                }
            }
            return part;
        }

        /** What the parts are shares of: 0 if no set wins. */
        int allOfPower(boolean bySwings) {
            if (!isWinning[(1 << players) - 1]) {
                return 0;
            }
            if (!bySwings) {
                return factorial(players);
            }
            int all = 0;
            for (int player = 0; player < players; player++) {
                all += partOfPower(player, true);
            }
            return all;
        }

        /** Whether the powers of all players are 1 together (or 0, if no set wins). */
        boolean isWhole(boolean bySwings) {
            int sum = 0;
            for (int player = 0; player < players; player++) {
                sum += partOfPower(player, bySwings);
            }
            return sum == allOfPower(bySwings);
        }

        private boolean isLeastWinning(int set) {
            boolean isLeast = isWinning[set];
            for (int player = 0; player < players; player++) {
                isLeast = isLeast && ((set >> player & 1) == 0 || isSwing(player, set));
            }
            return isLeast;
        }

        int leastWinningSets() {
            int many = 0;
            for (int set = 0; set < 1 << players; set++) {
                many += isLeastWinning(set) ? 1 : 0;
            }
            return many;
        }

        int leastWinning(int index) {
            int many = 0;
            for (int set = 0; set < 1 << players; set++) {
                if (isLeastWinning(set)) {
                    if (many == index) {
                        return set;
                    }
                    many++;
                }
            }
            return NONE;
        }

        /**
         * The least sum of weights told otherwise. A player who is worth more than another in some set must weigh
         * more, equal ones can be put in any order, and one who never swings weighs 0: so it is enough to try, sum by
         * sum, the weights that fall in the order of those told, by the least gaps and some more.
         */
        int leastSum() {
            if (!isWinning[(1 << players) - 1]) {
                return 0;
            }
            sortPlayers();
            findGaps();
            int least = 0;
            int told = weightOf(weights, (1 << players) - 1);
            for (int place = 0; place < movable; place++) {
                least += gap[place] * (place + 1);
            }
            for (int sum = least; sum < told; sum++) {
                if (isFound(this, movable - 1, sum - least, 0)) {
                    return sum;
                }
            }
            return told;
        }

        private void sortPlayers() {
            for (int i = 0; i < players; i++) {
                int at = i;
                for (; at > 0 && weights[order[at - 1]] < weights[i]; at--) {
                    order[at] = order[at - 1];
                }
                order[at] = i;
            }
        }

        private void findGaps() {
            movable = 0;
            for (int place = 0; place < players; place++) {
                if (partOfPower(order[place], true) > 0) {
                    movable = place + 1;
                }
                boolean isLast = place + 1 == players;
                gap[place] = isLast || isWorthMore(order[place], order[place + 1]) ? 1 : 0;
            }
        }

        private boolean isWorthMore(int one, int other) {
            for (int set = 0; set < 1 << players; set++) {
                boolean isWithoutBoth = (set >> one & 1) == 0 && (set >> other & 1) == 0;
                if (isWithoutBoth && isWinning[set | 1 << one] && !isWinning[set | 1 << other]) {
                    return true;
                }
            }
            return false;
        }

        /**
         * Spreads what is left of a sum over the gaps from a place on to the front, behind which the weights are
         * set; each level goes one place ahead.
         */
        private static boolean isFound(Weights by, int place, int left, int behind) {
            if (place < 0) {
                return left == 0 && by.isToldOtherwise();
            }
            for (int more = 0; more * (place + 1) <= left; more++) {
                int weight = behind + by.gap[place] + more;
                by.trial[by.order[place]] = weight;
                if ((place > 0 || more == left) && isFound(by, place - 1, left - more * (place + 1), weight)) {
                    return true;
                }
            }
            return false;
        }

        private boolean isToldOtherwise() {
            for (int place = movable; place < players; place++) {
                trial[order[place]] = 0;
            }
            int leastWinner = MAX_WEIGHT;
            int greatestLoser = 0;
            for (int set = 0; set < 1 << players; set++) {
                int weight = weightOf(trial, set);
                leastWinner = isWinning[set] && weight < leastWinner ? weight : leastWinner;
                greatestLoser = !isWinning[set] && weight > greatestLoser ? weight : greatestLoser;
            }
            return leastWinner > greatestLoser;
        }
    }
}
