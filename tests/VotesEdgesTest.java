/** The edges of section 2 and of the promises 1 to 9, each sentence by itself. */
public final class VotesEdgesTest extends Checks {

    private static void newObject() {
        Seattable x = new Seattable();
        says("1: without parties, lands, ballots, blocks, persons and players");
        int[] there = {0, 1, 3, 4, 5, 6};
        for (int what : there) {
            is(0, x.count(what));
        }
        isRefused(BOUNDS, () -> x.setVotes(0, 0, 0));
        isRefused(BOUNDS, () -> x.setPeople(0, 0));
        isRefused(BOUNDS, () -> x.setBounds(false, 0, 0, 0));
        isRefused(BOUNDS, () -> x.setBounds(true, 0, 0, 0));
        isRefused(BOUNDS, () -> x.setSum(false, 0, 0));
        isRefused(BOUNDS, () -> x.setSum(true, 0, 0));
        isRefused(STATE, () -> x.elect(1, 0, 0));
        isRefused(BOUNDS, () -> x.join(0, 1));
        isRefused(BOUNDS, () -> x.districtAt(1, 0));
        isRefused(BOUNDS, () -> x.panels(1, 0));
        isRefused(BOUNDS, () -> x.power(0, true));
        says("1: for 2 candidates");
        is(2, x.count(2));
        is(0, x.margin(0, 1));
        isRefused(BOUNDS, () -> x.margin(0, 2));
        is(0, x.agenda(12));
        says("1: the majority is 1");
        is(1, new Seattable().setMajority(600));
        Seattable one = new Seattable();
        one.addPlayer(1);
        is("1", leastSets(one));
        nothingYet();
    }

    private static void nothingYet() {
        Seattable x = new Seattable();
        says("1: nothing was dealt out");
        is(0, x.count(7));
        isRefused(BOUNDS, () -> x.seatAt(0, 0));
        is(0, x.write(0));
        says("1: nothing was dealt out (tables)");
        is(0, x.count(8));
        isRefused(BOUNDS, () -> x.cellAt(0, 0, 0));
        isRefused(BOUNDS, () -> x.factor(0, false, 0));
        isRefused(BOUNDS, () -> x.factor(0, true, 0));
        is("0 0 0 0 0", cut(x));
        is(0, x.write(1));
        says("1: nothing was counted");
        is(0, x.count(9));
        isRefused(STATE, () -> x.electedAt(0));
        isRefused(STATE, () -> x.electedAt(1));
        isRefused(BOUNDS, () -> x.votesAt(0, 0));
        isRefused(BOUNDS, () -> x.votesAt(0, NONE));
        says("1: nothing was drawn");
        is(0, x.panels(1, NONE));
        is("0 0/1", chance(x, 1));
        is(0, x.maps(1, 0));
        is(0, x.count(11));
        says("section 1: the board is 0 / 1 at first");
        Seattable y = new Seattable();
        is(0, y.digits(false, 0));
        is(1, y.digits(true, 0));
        isRefused(ELEMENT, () -> y.digits(false, 1));
        isRefused(ELEMENT, () -> y.digits(true, 1));
        is("0/1", board(y));
        says("1: no text, no report, no act at first");
        is(0, y.clearText());
        is(0, y.errorKind());
        is(NONE, y.errorPlace());
        isRefused(ELEMENT, () -> new Seattable().signAt(0));
        is(0, y.count(10));
        isRefused(STATE, () -> y.undo());
    }

    private static void partiesAndLands() {
        says("2: IllegalStateException if there are 6");
        Seattable x = house(5, 0);
        is(5, x.addParty());
        isRefused(STATE, () -> x.addParty());
        is(6, x.count(0));
        is(6, x.count(10));
        says("2: an act, which can be taken back, and done again");
        is(5, x.undo());
        is(5, x.count(0));
        is(5, x.addParty());
        says("2: returns its number, from 0 on");
        is(0, new Seattable().addParty());
        says("3: IllegalStateException if there are 5");
        Seattable y = house(0, 4);
        is(4, y.addLand());
        isRefused(STATE, () -> y.addLand());
        is(5, y.count(1));
        is(5, y.count(10));
        says("3: an act, which can be taken back, and done again");
        is(4, y.undo());
        is(4, y.count(1));
        is(4, y.addLand());
        says("3: returns its number, from 0 on");
        is(0, new Seattable().addLand());
        says("section 2: up to 6 parties and 5 lands at once");
        Seattable full = house(6, 5);
        is(0, full.setVotes(5, 4, 3));
        is(3, full.setVotes(5, 4, 0));
    }

    private static void votesOfParties() {
        says("section 2: votes are at first 0, of each party in each land");
        Seattable x = house(2, 3);
        for (int cell = 0; cell < 6; cell++) {
            is(0, x.setVotes(cell / 3, cell % 3, 10 + cell));
        }
        says("4: returns the votes before, each cell for itself");
        for (int cell = 0; cell < 6; cell++) {
            is(10 + cell, x.setVotes(cell / 3, cell % 3, 0));
        }
        says("section 2: votes are at first 0, also of a party or land that came later");
        x.setVotes(1, 2, 9);
        x.addParty();
        x.addLand();
        is(0, x.setVotes(2, 3, 1));
        is(0, x.setVotes(2, 0, 1));
        is(0, x.setVotes(0, 3, 1));
        says("4: votes 0 to 1,000,000");
        is(9, x.setVotes(1, 2, 1000000));
        is(1000000, x.setVotes(1, 2, 0));
        isRefused(ARGUMENT, () -> x.setVotes(1, 2, -1));
        isRefused(ARGUMENT, () -> x.setVotes(1, 2, 1000001));
        isRefused(ARGUMENT, () -> x.setVotes(1, 2, LOW));
        isRefused(ARGUMENT, () -> x.setVotes(1, 2, FAR));
        says("4: IndexOutOfBoundsException see section 1 (the party)");
        isRefused(BOUNDS, () -> x.setVotes(3, 0, 1));
        isRefused(BOUNDS, () -> x.setVotes(-1, 0, 1));
        isRefused(BOUNDS, () -> x.setVotes(FAR, 0, 1));
        isRefused(BOUNDS, () -> x.setVotes(LOW, 0, 1));
        says("4: IndexOutOfBoundsException see section 1 (the land)");
        isRefused(BOUNDS, () -> x.setVotes(0, 4, 1));
        isRefused(BOUNDS, () -> x.setVotes(0, -1, 1));
        isRefused(BOUNDS, () -> x.setVotes(0, FAR, 1));
        isRefused(BOUNDS, () -> x.setVotes(0, LOW, 1));
        says("4: of several exceptions the first one listed");
        isRefused(BOUNDS, () -> x.setVotes(3, 0, -1));
        isRefused(BOUNDS, () -> x.setVotes(0, 4, 1000001));
        says("4: refused calls change nothing");
        is(0, x.setVotes(1, 2, 0));
    }

    private static void peopleOfLands() {
        Seattable x = house(4, 3);
        says("section 2: people are at first 0, of each land");
        is(0, x.setPeople(0, 7));
        is(0, x.setPeople(2, 1000000));
        is(0, x.setPeople(1, 8));
        says("5: returns the people before");
        is(7, x.setPeople(0, 0));
        is(1000000, x.setPeople(2, 5));
        says("5: people 0 to 1,000,000");
        isRefused(ARGUMENT, () -> x.setPeople(2, -1));
        isRefused(ARGUMENT, () -> x.setPeople(2, 1000001));
        isRefused(ARGUMENT, () -> x.setPeople(2, LOW));
        isRefused(ARGUMENT, () -> x.setPeople(2, FAR));
        says("5: IndexOutOfBoundsException see section 1");
        isRefused(BOUNDS, () -> x.setPeople(3, 1));
        isRefused(BOUNDS, () -> x.setPeople(-1, 1));
        isRefused(BOUNDS, () -> x.setPeople(FAR, 1));
        isRefused(BOUNDS, () -> x.setPeople(LOW, 1));
        says("5: of several exceptions the first one listed");
        isRefused(BOUNDS, () -> x.setPeople(3, -1));
        is(5, x.setPeople(2, 0));
    }

    private static void bounds() {
        says("section 2: the least number is at first 0");
        is("1: 5 0|", dealt(votes(100, 1), 0, 0, 0, 5));
        is("1: 5 0|", dealt(people(100, 1), 2, 0, 0, 5));
        says("section 2: the greatest number is at first 400");
        is("1: 400|", dealt(votes(1), 0, 0, 0, 400));
        is("1: 400|", dealt(people(1), 2, 0, 0, 400));
        says("6: least 0 to 400, greatest least to 400");
        Seattable x = votes(1, 1);
        x.setBounds(false, 0, 0, 0);
        is("1: 0 7|", dealt(x, 0, 0, 0, 7));
        x.setBounds(false, 0, 7, 7);
        is("1: 7 1|", dealt(x, 0, 0, 0, 8));
        x.setBounds(false, 0, 400, 400);
        is("1: 400 0|", dealt(x, 0, 0, 0, 400));
        x.setBounds(false, 0, 0, 400);
        is("1: 4 4|", dealt(x, 0, 0, 0, 8));
        isRefused(ARGUMENT, () -> x.setBounds(false, 0, -1, 5));
        isRefused(ARGUMENT, () -> x.setBounds(false, 0, 401, 401));
        isRefused(ARGUMENT, () -> x.setBounds(false, 0, 401, 400));
        isRefused(ARGUMENT, () -> x.setBounds(false, 0, 0, 401));
        isRefused(ARGUMENT, () -> x.setBounds(false, 0, 6, 5));
        isRefused(ARGUMENT, () -> x.setBounds(false, 0, 0, -1));
        isRefused(ARGUMENT, () -> x.setBounds(false, 0, -1, -1));
        isRefused(ARGUMENT, () -> x.setBounds(true, 0, LOW, FAR));
        says("6: refused calls change nothing");
        is("1: 4 4|", dealt(x, 0, 0, 0, 8));
        says("6: IndexOutOfBoundsException see section 1 (2 parties, 1 land)");
        isRefused(BOUNDS, () -> x.setBounds(false, 2, 0, 1));
        isRefused(BOUNDS, () -> x.setBounds(false, -1, 0, 1));
        isRefused(BOUNDS, () -> x.setBounds(true, 1, 0, 1));
        isRefused(BOUNDS, () -> x.setBounds(true, -1, 0, 1));
        isRefused(BOUNDS, () -> x.setBounds(true, FAR, 0, 1));
        isRefused(BOUNDS, () -> x.setBounds(false, LOW, 0, 1));
        says("6: of several exceptions the first one listed");
        isRefused(BOUNDS, () -> x.setBounds(false, 2, 5, 4));
        isRefused(BOUNDS, () -> x.setBounds(true, 1, -1, 401));
        says("6: whether it is a land: the bounds of a land are not those of the party");
        x.setBounds(true, 0, 3, 3);
        x.setPeople(0, 1);
        is("1: 4 4|", dealt(x, 0, 0, 0, 8));
        is("1: 3|", dealt(x, 2, 0, 0, 3));
        is("0: ", dealt(x, 2, 0, 0, 4));
        says("6: an act");
        int acts = house(1, 0).count(10);
        Seattable y = house(1, 0);
        y.setBounds(false, 0, 0, 400);
        is(acts + 1, y.count(10));
    }

    private static void sums() {
        Seattable x = house(2, 3);
        says("section 2: the sum of each party and land is at first 0");
        for (int i = 0; i < 3; i++) {
            is(0, x.setSum(true, i, 20 + i));
        }
        for (int i = 0; i < 2; i++) {
            is(0, x.setSum(false, i, 10 + i));
        }
        says("7: whether it is a land; returns the sum before");
        is(20, x.setSum(true, 0, 40));
        is(10, x.setSum(false, 0, 40));
        is(21, x.setSum(true, 1, 0));
        is(11, x.setSum(false, 1, 0));
        is(22, x.setSum(true, 2, 0));
        says("7: seats 0 to 40");
        is(40, x.setSum(false, 0, 0));
        is(0, x.setSum(false, 0, 40));
        isRefused(ARGUMENT, () -> x.setSum(false, 0, 41));
        isRefused(ARGUMENT, () -> x.setSum(false, 0, -1));
        isRefused(ARGUMENT, () -> x.setSum(true, 0, 41));
        isRefused(ARGUMENT, () -> x.setSum(true, 0, -1));
        isRefused(ARGUMENT, () -> x.setSum(true, 0, FAR));
        isRefused(ARGUMENT, () -> x.setSum(true, 0, LOW));
        is(40, x.setSum(false, 0, 1));
        is(40, x.setSum(true, 0, 1));
        says("7: IndexOutOfBoundsException see section 1 (2 parties, 3 lands)");
        isRefused(BOUNDS, () -> x.setSum(false, 2, 1));
        isRefused(BOUNDS, () -> x.setSum(true, 3, 1));
        isRefused(BOUNDS, () -> x.setSum(false, -1, 1));
        isRefused(BOUNDS, () -> x.setSum(true, -1, 1));
        isRefused(BOUNDS, () -> x.setSum(true, LOW, 1));
        isRefused(BOUNDS, () -> x.setSum(false, FAR, 1));
        says("7: of several exceptions the first one listed");
        isRefused(BOUNDS, () -> x.setSum(false, 2, 41));
        isRefused(BOUNDS, () -> x.setSum(true, 3, -1));
    }

    private static void bar() {
        says("section 2: the bar is at first 0");
        Seattable x = votes(999999, 1, 0);
        is("1 1/2500", quota(x, 0, 0, 400, 1));
        says("section 2: counts as 0 if its votes are less than the bar (as many are enough)");
        Seattable y = votes(70, 20, 10);
        y.setBar(1, 10);
        is("1 1/1", quota(y, 0, 0, 10, 2));
        is("1 1/1", quota(y, 1, 0, 10, 2));
        y.setBar(101, 1000);
        is("0 0/1", quota(y, 0, 0, 10, 2));
        is("0 0/1", quota(y, 1, 0, 10, 2));
        is("1 20/9", quota(y, 0, 0, 10, 1));
        y.setBar(99, 1000);
        is("1 1/1", quota(y, 0, 0, 10, 2));
        says("section 2: the bar is of all votes of the row, also those that are below it");
        y.setBar(1, 5);
        is("1 20/9", quota(y, 0, 0, 10, 1));
        y.setBar(201, 1000);
        is("0 0/1", quota(y, 0, 0, 10, 1));
        is("1 10/1", quota(y, 0, 0, 10, 0));
        says("8: a bar of 1 is only reached with all votes");
        y.setBar(1, 1);
        is("0 0/1", quota(y, 0, 0, 10, 0));
        Seattable all = votes(0, 5);
        all.setBar(1000, 1000);
        is("1 7/1", quota(all, 0, 0, 7, 1));
        is("0 0/1", quota(all, 0, 0, 7, 0));
        Seattable none = votes(0, 0);
        none.setBar(1, 1);
        is("0 0/1", quota(none, 0, 0, 7, 0));
        says("section 2: row 0 takes the votes in all lands together, row 1 those in the told land");
        Seattable two = house(2, 2);
        two.setVotes(0, 0, 90);
        two.setVotes(1, 0, 10);
        two.setVotes(0, 1, 10);
        two.setVotes(1, 1, 90);
        two.setBar(2, 10);
        is("1 5/1", quota(two, 0, 0, 10, 1));
        is("0 0/1", quota(two, 1, 0, 10, 1));
        is("1 10/1", quota(two, 1, 1, 10, 1));
        is("0 0/1", quota(two, 1, 1, 10, 0));
        says("section 2: in the rows 0 and 1 (the row of lands has no bar)");
        Seattable lands = people(99, 1);
        lands.setBar(1, 1);
        is("1 1/1", quota(lands, 2, 0, 100, 1));
        says("section 2: a bar with the greatest numbers");
        Seattable big = house(2, 5);
        for (int land = 0; land < 5; land++) {
            big.setVotes(0, land, 999000);
            big.setVotes(1, land, 1000);
        }
        big.setBar(1, 1000);
        is("1 2/5", quota(big, 0, 0, 400, 1));
        big.setVotes(1, 4, 999);
        is("0 0/1", quota(big, 0, 0, 400, 1));
    }

    private static void sharesThatAreSet() {
        Seattable x = votes(30, 10);
        says("8: numerator 0 to denominator, denominator 1 to 1000");
        int[][] good = {{0, 1}, {1, 1}, {0, 1000}, {1000, 1000}, {999, 1000}};
        int[][] bad = {{-1, 1}, {2, 1}, {0, 0}, {1, 0}, {0, 1001}, {1001, 1001}, {-1, -1}, {0, -1}, {-2, -1},
            {1001, 1000}, {LOW, FAR}, {FAR, FAR}, {0, LOW}};
        for (int[] share : good) {
            x.setBar(share[0], share[1]);
        }
        is("0 0/1", quota(x, 0, 0, 1, 0));
        for (int[] share : bad) {
            isRefused(ARGUMENT, () -> x.setBar(share[0], share[1]));
        }
        is("0 0/1", quota(x, 0, 0, 1, 0));
        x.setBar(0, 1);
        is("1 3/4", quota(x, 0, 0, 1, 0));
        says("section 2: the signpost is at first 1 / 2");
        // 30 / (3/2) = 10 / (1/2) for the second seat.
        is("2: 2 0|1 1|", dealt(x, 0, 0, 0, 2));
        says("9: numerator 0 to denominator, denominator 1 to 1000");
        for (int[] share : good) {
            x.setPost(share[0], share[1]);
        }
        x.setPost(1, 1000);
        is("1: 1 1|", dealt(x, 0, 0, 0, 2));
        x.setPost(1000, 1000);
        is("1: 2 0|", dealt(x, 0, 0, 0, 2));
        for (int[] share : bad) {
            isRefused(ARGUMENT, () -> x.setPost(share[0], share[1]));
        }
        is("1: 2 0|", dealt(x, 0, 0, 0, 2));
        says("9: the signpost is another one than the bar");
        x.setPost(0, 1);
        is("1 3/4", quota(x, 0, 0, 1, 0));
        is("1: 1 1|", dealt(x, 0, 0, 0, 2));
        says("8 and 9: acts");
        Seattable y = new Seattable();
        y.setBar(0, 1);
        is(1, y.count(10));
        y.setPost(1, 2);
        is(2, y.count(10));
    }

    public static void main(String[] args) {
        newObject();
        partiesAndLands();
        votesOfParties();
        peopleOfLands();
        bounds();
        sums();
        bar();
        sharesThatAreSet();
        finish("VotesEdgesTest");
    }
}
