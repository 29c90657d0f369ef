/** The edges of the sections 7 and 11 and of the promises 24 to 29 and 44 to 47, each sentence by itself. */
public final class BallotsEdgesTest extends Checks {

    private static String elected(Seattable x, int seats, int quota, int moving) {
        int rounds = x.elect(seats, quota, moving);
        return rounds + ": " + fates(x);
    }

    private static void candidates() {
        Seattable x = new Seattable();
        says("24: many 2 to 6; returns the number before");
        is(2, x.setCandidates(6));
        is(6, x.setCandidates(2));
        isRefused(ARGUMENT, () -> x.setCandidates(1));
        isRefused(ARGUMENT, () -> x.setCandidates(7));
        isRefused(ARGUMENT, () -> x.setCandidates(0));
        isRefused(ARGUMENT, () -> x.setCandidates(LOW));
        isRefused(ARGUMENT, () -> x.setCandidates(FAR));
        is(2, x.count(2));
        is(2, x.count(10));
        says("24: takes all ballots and the count away, also for as many candidates");
        x.addBallot(3, 12);
        x.elect(1, 0, 0);
        isRefused(ARGUMENT, () -> x.setCandidates(7));
        is(1, x.count(3));
        is(1, x.count(9));
        is(2, x.setCandidates(2));
        is(0, x.count(3));
        is(0, x.count(9));
        isRefused(STATE, () -> x.electedAt(0));
        isRefused(BOUNDS, () -> x.votesAt(0, 0));
        isRefused(STATE, () -> x.elect(1, 0, 0));
        is(0, x.margin(0, 1));
        says("24: an act: taken back, ballots and count are there again");
        x.undo();
        is(1, x.count(3));
        is("1 0", fates(x));
        is(3, x.margin(0, 1));
        says("24: taken back, also if other ballots were added in their places");
        x.setCandidates(2);
        x.addBallot(500, 21);
        x.undo();
        x.undo();
        is(3, x.margin(0, 1));
        is(1, x.elect(1, 0, 0));
        is("3/1 0/1 0/1", votesIn(x, 0));
        says("24: the ballots are numbered from 0 again");
        x.setCandidates(3);
        is(0, x.addBallot(1, 3));
    }

    private static void rows() {
        Seattable x = ballots(3);
        says("25: many 1 to 1000");
        is(0, x.addBallot(1, 1));
        is(1, x.addBallot(1000, 1));
        is(1001, x.margin(0, 1));
        isRefused(ARGUMENT, () -> x.addBallot(0, 1));
        isRefused(ARGUMENT, () -> x.addBallot(1001, 1));
        isRefused(ARGUMENT, () -> x.addBallot(-1, 1));
        isRefused(ARGUMENT, () -> x.addBallot(FAR, 1));
        says("25: 0 for an empty row");
        is(2, x.addBallot(1, 0));
        says("25: IllegalArgumentException if the row is less than 0");
        isRefused(ARGUMENT, () -> x.addBallot(1, -1));
        isRefused(ARGUMENT, () -> x.addBallot(1, -123));
        isRefused(ARGUMENT, () -> x.addBallot(1, LOW));
        says("25: or has a digit that is no candidate's");
        is(3, x.addBallot(1, 3));
        isRefused(ARGUMENT, () -> x.addBallot(1, 4));
        isRefused(ARGUMENT, () -> x.addBallot(1, 9));
        isRefused(ARGUMENT, () -> x.addBallot(1, 124));
        isRefused(ARGUMENT, () -> x.addBallot(1, 412));
        isRefused(ARGUMENT, () -> x.addBallot(1, 142));
        isRefused(ARGUMENT, () -> x.addBallot(1, 10));
        isRefused(ARGUMENT, () -> x.addBallot(1, 102));
        isRefused(ARGUMENT, () -> x.addBallot(1, 1000000000));
        isRefused(ARGUMENT, () -> x.addBallot(1, FAR));
        says("25: or one twice");
        isRefused(ARGUMENT, () -> x.addBallot(1, 11));
        isRefused(ARGUMENT, () -> x.addBallot(1, 121));
        isRefused(ARGUMENT, () -> x.addBallot(1, 1231));
        isRefused(ARGUMENT, () -> x.addBallot(1, 1233));
        isRefused(ARGUMENT, () -> x.addBallot(1, 333));
        is(4, x.count(3));
        says("25: as many digits as there are candidates");
        is(4, x.addBallot(1, 321));
        is(0, ballots(2).addBallot(1, 21));
        is(0, ballots(6).addBallot(1, 654321));
        isRefused(ARGUMENT, () -> ballots(2).addBallot(1, 3));
        isRefused(ARGUMENT, () -> ballots(6).addBallot(1, 7));
        isRefused(ARGUMENT, () -> ballots(6).addBallot(1, 6543216));
        says("25: IllegalStateException if there are 20");
        for (int i = 5; i < 20; i++) {
            is(i, x.addBallot(2, 2));
        }
        isRefused(STATE, () -> x.addBallot(1, 1));
        is(20, x.count(3));
        says("25: of several exceptions the first one listed");
        isRefused(ARGUMENT, () -> x.addBallot(0, 1));
        isRefused(ARGUMENT, () -> x.addBallot(1, 11));
        says("25: the first choice first");
        Seattable y = ballots(3, 5, 312, 1, 1, 1, 2);
        y.elect(1, 0, 0);
        is("1/1 1/1 5/1 0/1", votesIn(y, 0));
        says("25: an act; the latest count stays");
        int acts = y.count(10);
        y.addBallot(1000, 1);
        is(acts + 1, y.count(10));
        is("0 0 1", fates(y));
        is("1/1 1/1 5/1 0/1", votesIn(y, 0));
    }

    private static void counts() {
        Seattable x = ballots(6, 7, 1);
        says("26: seats 1 to 5");
        isRefused(ARGUMENT, () -> x.elect(0, 0, 0));
        isRefused(ARGUMENT, () -> x.elect(6, 0, 0));
        isRefused(ARGUMENT, () -> x.elect(-1, 0, 0));
        isRefused(ARGUMENT, () -> x.elect(FAR, 0, 0));
        is("1: 1 0 0 0 0 0", elected(x, 1, 0, 0));
        is("3: 1 2 3 4 5 -2", elected(x, 5, 0, 0));
        says("26: quota rule 0 to 2");
        isRefused(ARGUMENT, () -> x.elect(1, -1, 0));
        isRefused(ARGUMENT, () -> x.elect(1, 3, 0));
        is(1, x.elect(1, 2, 0));
        says("26: moving rule 0 to 2");
        isRefused(ARGUMENT, () -> x.elect(1, 0, -1));
        isRefused(ARGUMENT, () -> x.elect(1, 0, 3));
        is(1, x.elect(1, 0, 2));
        says("26: IllegalArgumentException if seats is not less than the candidates");
        for (int candidates = 2; candidates < 6; candidates++) {
            int many = candidates;
            Seattable y = ballots(candidates, 1, 0);
            isRefused(ARGUMENT, () -> y.elect(many, 0, 0));
            is(2, y.elect(candidates - 1, 0, 0));
        }
        says("26: IllegalStateException if there is no ballot");
        isRefused(STATE, () -> ballots(3).elect(1, 0, 0));
        is(3, ballots(3, 1, 0).elect(1, 0, 0));
        says("26: of several exceptions the first one listed");
        isRefused(ARGUMENT, () -> ballots(3).elect(3, 0, 0));
        isRefused(ARGUMENT, () -> ballots(3).elect(1, 3, 0));
        says("26: refused calls leave the latest count, and are no act");
        is("1 0 0 0 0 0", fates(x));
        is(1 + 1 + 4, x.count(10));
        says("26: an act: taken back, the count ahead is there again");
        Seattable z = ballots(3, 4, 1, 3, 2, 2, 3);
        is("3: 1 -2 -1", elected(z, 1, 2, 0));
        is("3: 1 2 -2", elected(z, 2, 0, 0));
        is("1 -2 -1", fates(undone(z)));
        is(3, z.count(9));
        is(0, undone(z).count(9));
        isRefused(STATE, () -> z.electedAt(0));
    }

    private static void quotas() {
        says("section 7: rule 0: V / (seats + 1), and a candidate reaches it with more votes than that");
        is("2: 1 -1", elected(ballots(2, 5, 1, 5, 2), 1, 0, 0));
        is("1: 1 0", elected(ballots(2, 6, 1, 5, 2), 1, 0, 0));
        is("1: 0 1", elected(ballots(2, 499, 1, 500, 2), 1, 0, 0));
        Seattable three = ballots(4, 5, 12, 5, 2, 4, 3, 1, 4);
        is("3: 1 2 -2 -1", elected(three, 2, 0, 0));
        is("5/1 5/1 4/1 1/1 0/1", votesIn(three, 0));
        is(-1, three.electedAt(3));
        is(-2, three.electedAt(2));
        says("section 7: rule 1: the whole part of V / (seats + 1) and 1, with as many votes, or more");
        is("1: 1 0", elected(ballots(2, 6, 1, 4, 2), 1, 1, 0));
        is("2: 1 -1", elected(ballots(2, 5, 1, 4, 0, 1, 2), 1, 1, 0));
        is("1: 1 0", elected(ballots(2, 5, 1, 4, 2), 1, 1, 0));
        is("1: 1 0 0 0", elected(ballots(4, 5, 1, 2, 2, 2, 3), 1, 1, 2));
        says("section 7: rule 2: V / seats, with as many votes, or more");
        is("1: 1 0", elected(ballots(2, 10, 1), 1, 2, 0));
        is("2: 1 -1", elected(ballots(2, 9, 1, 1, 2), 1, 2, 0));
        Seattable half = ballots(3, 5, 1, 3, 2, 2, 3);
        is("3: 1 2 -2", elected(half, 2, 2, 0));
        Seattable less = ballots(3, 5, 1, 3, 2, 2, 3, 1, 0);
        is("2: 1 2 -1", elected(less, 2, 2, 0));
        says("section 7: all votes V are the numbers of all ballots, also of empty ones");
        is("2: 1 -1", elected(ballots(2, 5, 1, 5, 0), 1, 0, 0));
        is("1: 1 0", elected(ballots(2, 5, 1, 4, 0), 1, 0, 0));
    }

    private static void rounds() {
        says("section 7: a ballot without candidates lies with nobody, in the round 0 already");
        Seattable empty = ballots(4, 1, 0);
        is("3: 1 2 -2 -1", elected(empty, 2, 1, 0));
        is("0/1 0/1 0/1 0/1 1/1", votesIn(empty, 0));
        is("0/1 0/1 0/1 0/1 1/1", votesIn(empty, 2));
        says("section 7: at most as many as the seats: all hopeful ones are elected, by ascending numbers");
        is("2: 1 2 3 -1", elected(ballots(4, 1, 0), 3, 0, 0));
        Seattable late = ballots(4, 1, 2, 2, 3, 1, 0);
        is("4: -3 2 1 -2", elected(late, 2, 0, 0));
        is("2: 1 2 3 -1", elected(ballots(4, 1, 3, 1, 2, 1, 1, 9, 0), 3, 2, 0));
        says("section 7: of several with the most votes the one with the least number");
        is("2: 0 1 2", elected(ballots(3, 1, 1, 6, 2, 6, 3), 2, 0, 0));
        is("2: 1 0 2", elected(ballots(3, 6, 1, 1, 2, 6, 3), 2, 0, 0));
        says("section 7: the one with the most votes is elected first");
        is("2: 2 1 0", elected(ballots(3, 6, 1, 7, 2, 1, 3), 2, 0, 0));
        says("section 7: if all seats are taken then, the count is over: no surplus is moved, nobody is out");
        Seattable over = ballots(3, 9, 12, 1, 2, 1, 3);
        is("1: 1 0 0", elected(over, 1, 0, 0));
        is("9/1 1/1 1/1 0/1", votesIn(over, 0));
        says("section 7: of several with the fewest votes the one with the greatest number is out");
        is("6: 1 -5 -4 -3 -2 -1", elected(ballots(6, 1, 0), 1, 0, 0));
        is("2: 0 -1 1", elected(ballots(3, 3, 1, 2, 23, 4, 3), 1, 0, 0));
        is("2: 0 1 -1", elected(ballots(3, 2, 1, 3, 2, 2, 32), 1, 0, 0));
        says("section 7: all ballots of the one that is out are moved with what they are worth");
        Seattable out = ballots(3, 4, 1, 3, 2, 2, 32, 1, 3);
        is("3: -2 1 -1", elected(out, 1, 0, 0));
        is("4/1 3/1 3/1 0/1", votesIn(out, 0));
        is("4/1 5/1 0/1 1/1", votesIn(out, 1));
        says("section 7: a part of a ballot that stays is not moved again");
        Seattable part = ballots(4, 12, 132, 5, 2, 4, 42);
        is("3: 1 2 0 -2", elected(part, 2, 0, 0));
        is("12/1 5/1 0/1 4/1 0/1", votesIn(part, 0));
        is("7/1 5/1 5/1 4/1 0/1", votesIn(part, 1));
        is("7/1 9/1 5/1 0/1 0/1", votesIn(part, 2));
    }

    private static void movingOn() {
        says("section 7: to the next candidate in its row who is hopeful, not to one elected or out");
        // V / 3 = 8: 15 - 8 go on from 0; then 4 is out, whose ballots pass by 0, and 3 by 0 and 4.
        Seattable x = ballots(5, 15, 1, 5, 2, 3, 3, 1, 4152);
        is("15/1 5/1 3/1 1/1 0/1 0/1", start(x, 2));
        is("8/1 5/1 3/1 1/1 0/1 7/1", votesIn(x, 1));
        is("8/1 5/1 3/1 1/1 0/1 7/1", votesIn(x, 2));
        is("8/1 6/1 3/1 0/1 0/1 7/1", votesIn(x, 3));
        is("8/1 6/1 0/1 0/1 0/1 10/1", votesIn(x, 4));
        is("1 2 -4 -3 -2", fates(x));
        says("section 7: behind the one with whom it lies; without one to nobody");
        Seattable y = ballots(3, 2, 321, 3, 1, 4, 2);
        is("2/1", firstOf(y, 2));
        is("3/1 6/1 0/1 0/1", votesIn(y, 1));
    }

    private static String start(Seattable x, int seats) {
        x.elect(seats, 0, 0);
        return votesIn(x, 0);
    }

    private static String firstOf(Seattable x, int candidate) {
        x.elect(1, 0, 0);
        x.votesAt(0, candidate);
        return board(x);
    }

    /** The first two pass the quota of 10; 2 of the ballots of the first one go to the second one. */
    private static Seattable surplus() {
        return ballots(5, 2, 124, 18, 13, 15, 25, 4, 4);
    }

    private static void movingRules() {
        says("section 7: moving rule 0: with all ballots, each worth what it was times surplus / votes");
        Seattable x = surplus();
        is(5, x.elect(3, 1, 0));
        is("20/1 15/1 0/1 4/1 0/1 0/1", votesIn(x, 0));
        is("10/1 16/1 9/1 4/1 0/1 0/1", votesIn(x, 1));
        is("10/1 10/1 9/1 35/8 45/8 0/1", votesIn(x, 2));
        is("1 2 3 -3 -4", fates(x));
        says("section 7: moving rule 1: those moved to it in the latest round, at most what each was worth");
        is(5, x.elect(3, 1, 1));
        is("10/1 16/1 9/1 4/1 0/1 0/1", votesIn(x, 1));
        is("10/1 15/1 9/1 5/1 0/1 0/1", votesIn(x, 2));
        is("10/1 15/1 9/1 0/1 0/1 5/1", votesIn(x, 4));
        is("1 2 3 -4 -3", fates(x));
        says("section 7: moving rule 2: not at all");
        is(5, x.elect(3, 1, 2));
        is("20/1 15/1 0/1 4/1 0/1 0/1", votesIn(x, 2));
        is("20/1 15/1 0/1 4/1 0/1 0/1", votesIn(x, 4));
        is("1 2 -4 3 -3", fates(x));
        says("section 7: rule 1: the latest round in which any were (5 at first, 4 in round 0), times 2 / 4");
        Seattable latest = ballots(4, 5, 12, 4, 413, 6, 2, 5, 3);
        is(3, latest.elect(2, 1, 1));
        is("9/1 6/1 5/1 0/1 0/1", votesIn(latest, 1));
        is("7/1 6/1 7/1 0/1 0/1", votesIn(latest, 2));
        says("section 7: rule 1: if none were, with those that it had at first");
        Seattable first = ballots(3, 6, 12, 3, 13, 1, 2);
        is(2, first.elect(2, 1, 1));
        is("4/1 13/3 5/3 0/1", votesIn(first, 1));
        says("section 7: rule 1: of those moved in one round all, and none of an earlier round");
        Seattable rounds = ballots(5, 6, 1, 3, 512, 3, 413, 2, 514, 9, 2, 9, 3);
        is("5: 1 2 -4 -1 -2", elected(rounds, 2, 1, 1));
        is("6/1 9/1 9/1 3/1 5/1 0/1", votesIn(rounds, 0));
        is("9/1 9/1 9/1 0/1 5/1 0/1", votesIn(rounds, 1));
        is("14/1 9/1 9/1 0/1 0/1 0/1", votesIn(rounds, 2));
        is("11/1 54/5 9/1 0/1 0/1 6/5", votesIn(rounds, 3));
        says("section 7: exact sums: 400 and 600 ballots of 499 / 1000 each are 499");
        Seattable exact = ballots(4, 400, 13, 600, 134, 1000, 24);
        is("4: 1 2 3 -3", elected(exact, 3, 1, 0));
        is("501/1 1000/1 499/1 0/1 0/1", votesIn(exact, 1));
        is("501/1 501/1 499/1 499/1 0/1", votesIn(exact, 2));
        says("section 7: what is not moved stays with the elected one (votes and nobody's are always V)");
        is(0, rounds.errors());
        is(0, x.errors());
    }

    private static void fatesThatAreAsked() {
        Seattable x = ballots(4, 12, 12, 5, 32, 3, 4);
        says("27: IllegalStateException if there was no count");
        isRefused(STATE, () -> x.electedAt(0));
        isRefused(STATE, () -> x.electedAt(3));
        says("27: of several exceptions the first one listed");
        isRefused(BOUNDS, () -> x.electedAt(4));
        isRefused(BOUNDS, () -> x.electedAt(-1));
        says("28: IndexOutOfBoundsException if there was no count");
        isRefused(BOUNDS, () -> x.votesAt(0, 0));
        isRefused(BOUNDS, () -> x.votesAt(0, NONE));
        says("27: 1 and more: elected, as the first one, the second one; -1 and less: out, in the round -1 less this");
        is("4: 1 2 -3 -2", elected(x, 2, 0, 0));
        says("27: 0: neither");
        is("1: 1 0 0 0", elected(x, 1, 0, 0));
        says("27: IndexOutOfBoundsException see section 1");
        isRefused(BOUNDS, () -> x.electedAt(4));
        isRefused(BOUNDS, () -> x.electedAt(-1));
        isRefused(BOUNDS, () -> x.electedAt(FAR));
        isRefused(BOUNDS, () -> x.electedAt(LOW));
        says("28: IndexOutOfBoundsException if there is no such round");
        is(1, x.votesAt(0, 0));
        isRefused(BOUNDS, () -> x.votesAt(1, 0));
        isRefused(BOUNDS, () -> x.votesAt(-1, 0));
        isRefused(BOUNDS, () -> x.votesAt(FAR, 0));
        isRefused(BOUNDS, () -> x.votesAt(LOW, NONE));
        says("28: or candidate");
        isRefused(BOUNDS, () -> x.votesAt(0, 4));
        isRefused(BOUNDS, () -> x.votesAt(0, -2));
        isRefused(BOUNDS, () -> x.votesAt(0, FAR));
        isRefused(BOUNDS, () -> x.votesAt(0, LOW));
        is("12/1", board(x));
        says("28: NONE: those that went to nobody; returns its sign");
        is(0, x.votesAt(0, NONE));
        is("0/1", board(x));
        is(0, x.votesAt(0, 1));
        is(1, x.votesAt(0, 3));
        is("3/1", board(x));
    }

    private static void openLists() {
        Seattable x = ballots(4, 2, 4, 3, 31, 3, 2, 2, 0);
        says("section 7: at least the told share of V (3 of 10)");
        is("1 2 0 3", openList(x, 3, 10));
        is("0 1 2 3", openList(x, 31, 100));
        is("1 2 0 3", openList(x, 29, 100));
        says("section 7: by their personal votes, of several the one with the least number first");
        is("1 2 3 0", openList(x, 2, 10));
        is("1 2 0 3", openList(x, 21, 100));
        is("3 0 2 1", openList(ballots(4, 5, 4, 4, 1, 4, 3, 3, 2), 1, 100));
        says("section 7: then all others in the list's order, whatever votes they have");
        is("3 0 1 2", openList(ballots(4, 9, 4, 1, 1, 4, 2, 5, 3), 40, 100));
        says("section 7: a share of 0 is that of all");
        is("1 2 3 0", openList(x, 0, 1));
        says("section 7: a share of all votes");
        is("2 0 1", openList(ballots(3, 5, 3), 1, 1));
        is("0 1 2", openList(ballots(3, 5, 3, 1, 0), 1, 1));
        is("2 0 1", openList(ballots(3, 99, 3, 1, 0), 99, 100));
        says("section 7: personal votes are those of the ballots that have it first");
        is("1 0 2", openList(ballots(3, 3, 213, 2, 123), 51, 100));
        is("5 0 1 2 3 4", openList(ballots(6, 1, 654321), 1, 1));
        is("4 0 1 2 3 5", openList(ballots(6, 1, 56), 1, 1));
        says("29: without ballots all have the share, and nobody has votes");
        is("0 1", openList(new Seattable(), 1, 1));
        is("0 1", openList(new Seattable(), 0, 1));
        says("29: place 0 to the number of candidates less 1");
        isRefused(BOUNDS, () -> x.openAt(4, 1, 2));
        isRefused(BOUNDS, () -> x.openAt(-1, 1, 2));
        isRefused(BOUNDS, () -> x.openAt(FAR, 1, 2));
        isRefused(BOUNDS, () -> x.openAt(LOW, 1, 2));
        isRefused(BOUNDS, () -> new Seattable().openAt(2, 1, 2));
        says("29: numerator 0 to denominator");
        isRefused(ARGUMENT, () -> x.openAt(0, -1, 2));
        isRefused(ARGUMENT, () -> x.openAt(0, 3, 2));
        is(0, x.openAt(0, 2, 2));
        says("29: denominator 1 to 100");
        isRefused(ARGUMENT, () -> x.openAt(0, 0, 0));
        isRefused(ARGUMENT, () -> x.openAt(0, 0, 101));
        isRefused(ARGUMENT, () -> x.openAt(0, 0, -1));
        isRefused(ARGUMENT, () -> x.openAt(0, LOW, LOW));
        is(1, x.openAt(0, 0, 100));
        is(0, x.openAt(0, 100, 100));
        says("29: of several exceptions the first one listed");
        isRefused(BOUNDS, () -> x.openAt(4, 1, 0));
    }

    private static void margins() {
        Seattable x = ballots(4, 5, 12, 3, 231);
        says("section 11: it stands ahead of it in its row");
        is(2, x.margin(0, 1));
        is(-2, x.margin(1, 0));
        says("section 11: or stands in it while the other does not");
        is(8, x.margin(1, 2));
        is(2, x.margin(0, 2));
        is(8, x.margin(0, 3));
        is(-8, x.margin(3, 1));
        says("section 11: not, if neither stands in it");
        is(3, x.margin(2, 3));
        is(0, ballots(4, 5, 12, 3, 0).margin(2, 3));
        says("44: of a candidate above itself there is nothing");
        is(0, x.margin(1, 1));
        says("44: the greatest margin");
        Seattable full = ballots(6);
        for (int i = 0; i < 20; i++) {
            full.addBallot(1000, 6);
        }
        is(20000, full.margin(5, 0));
        is(-20000, full.margin(0, 5));
        says("44: IndexOutOfBoundsException see section 1");
        isRefused(BOUNDS, () -> x.margin(4, 0));
        isRefused(BOUNDS, () -> x.margin(0, 4));
        isRefused(BOUNDS, () -> x.margin(-1, 0));
        isRefused(BOUNDS, () -> x.margin(0, -1));
        isRefused(BOUNDS, () -> x.margin(FAR, FAR));
        isRefused(BOUNDS, () -> x.margin(0, LOW));
        says("44: returns the number, and leaves the board");
        is("0/1", board(x));
    }

    private static void agendas() {
        // A ring: 0 beats 1, 1 beats 2, 2 beats 0.
        Seattable ring = ballots(3, 4, 123, 3, 231, 2, 312);
        says("section 11: the first two are put against each other, what is left against the next one");
        is(2, ring.agenda(123));
        is(2, ring.agenda(213));
        is(0, ring.agenda(231));
        is(0, ring.agenda(321));
        is(1, ring.agenda(132));
        is(1, ring.agenda(312));
        says("section 11: the one that was there already is left, unless the new one beats it");
        Seattable even = ballots(3, 5, 1, 5, 2);
        is(0, even.agenda(123));
        is(1, even.agenda(213));
        is(0, even.agenda(312));
        is(1, even.agenda(321));
        is(0, ballots(2, 5, 1, 4, 2).agenda(21));
        is(1, ballots(2, 4, 1, 5, 2).agenda(12));
        is(0, new Seattable().agenda(12));
        is(1, new Seattable().agenda(21));
        says("45: IllegalArgumentException if it is no order of all candidates");
        int[] bad = {0, 1, 12, 23, 122, 121, 1234, 1231, 124, 412, 102, 1203, 120, -123, LOW, FAR, 123123};
        for (int agenda : bad) {
            isRefused(ARGUMENT, () -> ring.agenda(agenda));
        }
        isRefused(ARGUMENT, () -> new Seattable().agenda(1));
        isRefused(ARGUMENT, () -> new Seattable().agenda(123));
        is(5, ballots(6, 1, 6).agenda(123456));
        isRefused(ARGUMENT, () -> ballots(6, 1, 6).agenda(1234567));
        isRefused(ARGUMENT, () -> ballots(6, 1, 6).agenda(12345));
        says("46: the first agenda, as the least number, that brings a candidate");
        is(231, ring.agendaFor(0));
        is(132, ring.agendaFor(1));
        is(123, ring.agendaFor(2));
        is(123, even.agendaFor(0));
        is(213, even.agendaFor(1));
        is(123456, ballots(6, 1, 6).agendaFor(5));
        is(612345, ballots(6).agendaFor(5));
        says("46: 0 if there is none");
        is(0, even.agendaFor(2));
        is(0, ballots(6, 1, 6).agendaFor(0));
        says("46: by the ballots that are there when it is asked");
        Seattable turned = ballots(2, 5, 12);
        is("0 12", turned.agenda(21) + " " + turned.agendaFor(0));
        turned.addBallot(9, 21);
        is("1 0 12", turned.agenda(12) + " " + turned.agendaFor(0) + " " + turned.agendaFor(1));
        says("47: how many agendas bring a candidate");
        is(2, ring.agendasFor(0));
        is(2, ring.agendasFor(1));
        is(2, ring.agendasFor(2));
        is(3, even.agendasFor(0));
        is(3, even.agendasFor(1));
        is(0, even.agendasFor(2));
        is(1, new Seattable().agendasFor(1));
        is(720, ballots(6, 1, 6).agendasFor(5));
        is(120, ballots(6).agendasFor(0));
        is(120, ballots(6).agendasFor(5));
        says("46 and 47: IndexOutOfBoundsException see section 1");
        int[] nobody = {3, -1, FAR, LOW};
        for (int candidate : nobody) {
            isRefused(BOUNDS, () -> ring.agendaFor(candidate));
            isRefused(BOUNDS, () -> ring.agendasFor(candidate));
        }
        says("44 to 47: questions: no act");
        is(4, ring.count(10));
    }

    public static void main(String[] args) {
        candidates();
        rows();
        counts();
        quotas();
        rounds();
        movingOn();
        movingRules();
        fatesThatAreAsked();
        openLists();
        margins();
        agendas();
        finish("BallotsEdgesTest");
    }
}
