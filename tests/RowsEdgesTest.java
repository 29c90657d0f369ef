/** The edges of the sections 3, 5 and 6 and of the promises 15 to 18 and 23, each sentence by itself. */
public final class RowsEdgesTest extends Checks {

    private static void quotientsAboveAllNumbers() {
        int[] votes = {1000000, 1, 1};
        String[] due = {"3: 1 0 0|0 1 0|0 0 1|", "3: 1 1 0|1 0 1|0 1 1|", "1: 1 1 1|", "1: 2 1 1|"};
        says("section 3: more than all numbers, if s(k - 1) is 0; all such are alike (rule 0, t = 0)");
        Seattable x = votes(votes);
        x.setPost(0, 7);
        for (int house = 1; house <= 4; house++) {
            is(due[house - 1], dealt(x, 0, 0, 0, house));
        }
        says("section 3: all such are alike (rules 1 and 2, whatever t is)");
        Seattable y = votes(votes);
        y.setPost(1, 1);
        for (int house = 1; house <= 4; house++) {
            is(due[house - 1], dealt(y, 0, 0, 1, house));
            is(due[house - 1], dealt(y, 0, 0, 2, house));
        }
        says("section 3: one with a claim of 0 gets no seat by such a quotient");
        for (int rule = 0; rule < 3; rule++) {
            Seattable none = votes(0, 5, 0);
            none.setPost(0, 1);
            is("1: 0 2 0|", dealt(none, 0, 0, rule, 2));
        }
        says("section 3: with t above 0 the first seat has a quotient, too");
        Seattable z = votes(votes);
        is("1: 1 0 0|", dealt(z, 0, 0, 0, 1));
        z.setPost(1, 1000);
        is("1: 3 0 0|", dealt(z, 0, 0, 0, 3));
    }

    private static void signposts() {
        says("section 3: rule 0: s(n) = n + t (a 4th part of the votes is alike with t = 1 / 3)");
        Seattable x = votes(4, 1);
        x.setPost(1, 3);
        is("2: 2 0|1 1|", dealt(x, 0, 0, 0, 2));
        x.setPost(333, 1000);
        is("1: 1 1|", dealt(x, 0, 0, 0, 2));
        x.setPost(334, 1000);
        is("1: 2 0|", dealt(x, 0, 0, 0, 2));
        says("section 3: rule 0 with exact quotients");
        is("1: 2 0|", dealt(votes(1000000, 333333), 0, 0, 0, 2));
        is("1: 1 1|", dealt(votes(1000000, 333334), 0, 0, 0, 2));
        is("2: 2 0|1 1|", dealt(votes(999999, 333333), 0, 0, 0, 2));
        says("section 3: rule 1: s(n) = 2 n (n + 1) / (2 n + 1): 9 / (12 / 5) = 5 / (4 / 3)");
        Seattable y = votes(9, 5);
        is("1: 2 1|", dealt(y, 0, 0, 1, 3));
        is("2: 3 1|2 2|", dealt(y, 0, 0, 1, 4));
        is("1: 3 2|", dealt(y, 0, 0, 1, 5));
        is("1: 3 1|", dealt(votes(900001, 500000), 0, 0, 1, 4));
        is("1: 2 2|", dealt(votes(900000, 500001), 0, 0, 1, 4));
        says("section 3: rule 2: s(n) is the root of n (n + 1): 6 / (root of 72) = 1 / (root of 2)");
        is("1: 8 1|", dealt(votes(6, 1), 0, 0, 2, 9));
        is("2: 9 1|8 2|", dealt(votes(6, 1), 0, 0, 2, 10));
        is("2: 9 1|8 2|", dealt(votes(999996, 166666), 0, 0, 2, 10));
        is("1: 9 1|", dealt(votes(999997, 166666), 0, 0, 2, 10));
        is("1: 8 2|", dealt(votes(999996, 166667), 0, 0, 2, 10));
        says("section 3: great houses and claims");
        Seattable big = house(2, 5);
        for (int land = 0; land < 5; land++) {
            big.setVotes(0, land, 1000000);
            big.setVotes(1, land, 1000000);
        }
        for (int rule = 0; rule < 5; rule++) {
            is("1: 200 200|", dealt(big, 0, 0, rule, 400));
            is("2: 200 199|199 200|", dealt(big, 0, 0, rule, 399));
        }
        big.setVotes(1, 4, 999999);
        for (int rule = 0; rule < 5; rule++) {
            is("1: 200 199|", dealt(big, 0, 0, rule, 399));
        }
    }

    private static void bounds() {
        Seattable x = votes(90, 10, 0);
        x.setBounds(false, 1, 3, 5);
        x.setBounds(false, 2, 2, 9);
        says("section 3: each one has its least number of seats first, also without a claim");
        is("1: 0 3 2|", dealt(x, 0, 0, 0, 5));
        is("1: 1 3 2|", dealt(x, 0, 0, 0, 6));
        is("1: 7 3 2|", dealt(x, 0, 0, 0, 12));
        says("section 3: no result if the house is less than the sum of the least numbers");
        is("0: ", dealt(x, 0, 0, 0, 4));
        is("0: ", dealt(x, 0, 0, 1, 4));
        is("0: ", dealt(x, 0, 0, 2, 4));
        is("1: 0 3 2|", dealt(x, 0, 0, 1, 5));
        is("1: 0 3 2|", dealt(x, 0, 0, 2, 5));
        says("section 3: up to their greatest numbers");
        x.setBounds(false, 0, 0, 4);
        is("1: 4 4 2|", dealt(x, 0, 0, 0, 10));
        is("1: 4 5 2|", dealt(x, 0, 0, 0, 11));
        says("section 3: no result if the house is more than the sum of the greatest numbers of all with a claim"
                + " above 0 and the least numbers of all others");
        is("0: ", dealt(x, 0, 0, 0, 12));
        is("0: ", dealt(x, 0, 0, 1, 12));
        is("0: ", dealt(x, 0, 0, 2, 12));
        is("1: 4 5 2|", dealt(x, 0, 0, 1, 11));
        is("1: 4 5 2|", dealt(x, 0, 0, 2, 11));
        says("section 3: one below the bar is one of the others");
        x.setBar(11, 100);
        is("1: 4 3 2|", dealt(x, 0, 0, 0, 9));
        is("0: ", dealt(x, 0, 0, 0, 10));
        says("section 3: without a claim above 0 a divisor rule has a result, if the least numbers are the house");
        Seattable none = votes(0, 0);
        none.setBounds(false, 0, 2, 5);
        none.setBounds(false, 1, 1, 1);
        for (int rule = 0; rule < 3; rule++) {
            is("0: ", dealt(none, 0, 0, rule, 2));
            is("1: 2 1|", dealt(none, 0, 0, rule, 3));
            is("0: ", dealt(none, 0, 0, rule, 4));
        }
        says("section 3: one at its greatest number is not among the alike ones");
        Seattable alike = votes(10, 10, 10);
        alike.setBounds(false, 1, 0, 0);
        is("2: 1 0 0|0 0 1|", dealt(alike, 0, 0, 0, 1));
        is("1: 1 0 1|", dealt(alike, 0, 0, 0, 2));
        alike.setBounds(false, 1, 0, 1);
        is("2: 2 1 1|1 1 2|", dealt(alike, 0, 0, 0, 4));
        says("section 3: seats by the least number count for the next quotient");
        alike.setBounds(false, 1, 1, 9);
        is("2: 1 1 0|0 1 1|", dealt(alike, 0, 0, 0, 2));
    }

    private static void alikeOnes() {
        says("section 3: alike, but too many: each choice makes a result; with enough seats there is one");
        Seattable x = votes(10, 10, 10);
        for (int rule = 0; rule < 5; rule++) {
            is("1: 1 1 1|", dealt(x, 0, 0, rule, 3));
            is("3: 2 1 1|1 2 1|1 1 2|", dealt(x, 0, 0, rule, 4));
            is("3: 2 2 1|2 1 2|1 2 2|", dealt(x, 0, 0, rule, 5));
            is("1: 2 2 2|", dealt(x, 0, 0, rule, 6));
        }
        says("section 3: only the next ones are chosen among");
        is("3: 2 0 0|1 1 0|1 0 1|", dealt(votes(30, 10, 10), 0, 0, 0, 2));
        is("2: 0 1 0|0 0 1|", dealt(votes(10, 11, 11), 0, 0, 0, 1));
        says("section 3: results stand in order: more seats for the first one for which they differ");
        for (int rule = 0; rule < 5; rule++) {
            Seattable six = votes(7, 7, 7, 7, 7, 7);
            is(20, six.deal(0, 0, rule, 3));
            String told = results(six);
            is("1 1 1 0 0 0|1 1 0 1 0 0|1 1 0 0 1 0|1 1 0 0 0 1|1 0 1 1 0 0|", told.substring(0, 60));
            is("0 1 0 0 1 1|0 0 1 1 1 0|0 0 1 1 0 1|0 0 1 0 1 1|0 0 0 1 1 1|", told.substring(180));
            is(6, six.deal(0, 0, rule, 1));
            is(6, six.deal(0, 0, rule, 5));
            is(1, six.deal(0, 0, rule, 6));
            Seattable great = votes(7, 7, 7, 7, 7, 7);
            is(20, great.deal(0, 0, rule, 399));
            is("67 67 67 66 66 66|", results(great).substring(0, 18));
        }
        says("section 3: order is by the lands, too");
        is("2: 2 1|1 2|", dealt(people(5, 5), 2, 0, 0, 3));
    }

    private static void quotaRules() {
        says("section 3: each one has the whole part of its quota");
        is("1: 5 3 2|", dealt(votes(50, 30, 20), 0, 0, 3, 10));
        is("1: 5 3 2|", dealt(votes(50, 30, 20), 0, 0, 4, 10));
        says("section 3: rule 3: those with the greatest rests (2.8, 0.8 and 0.4)");
        is("1: 3 1 0|", dealt(votes(70, 20, 10), 0, 0, 3, 4));
        says("section 3: rule 4: for whom the rest divided by the claim is greatest");
        is("1: 2 1 1|", dealt(votes(70, 20, 10), 0, 0, 4, 4));
        is("3: 1 0 0|0 1 0|0 0 1|", dealt(votes(5, 3, 2), 0, 0, 4, 1));
        is("1: 1 0 0|", dealt(votes(5, 3, 2), 0, 0, 3, 1));
        says("section 3: one each");
        is("1: 2 1 1 1|", dealt(votes(6, 4, 4, 4), 0, 0, 3, 5));
        says("section 3: only to those with a rest above 0 (2, 1.5 and 1.5)");
        is("2: 2 2 1|2 1 2|", dealt(votes(4, 3, 3), 0, 0, 3, 5));
        is("2: 2 2 1|2 1 2|", dealt(votes(4, 3, 3), 0, 0, 4, 5));
        is("1: 3 0 0|", dealt(votes(3, 0, 0), 0, 0, 4, 3));
        says("section 3: exact rests of great numbers");
        is("1: 1 0|", dealt(votes(1000000, 999999), 0, 0, 3, 1));
        is("1: 0 1|", dealt(votes(999999, 1000000), 0, 0, 3, 1));
        is("1: 200 199|", dealt(votes(1000000, 999999), 0, 0, 3, 399));
        says("section 3: no result by a quota rule, if all claims are 0");
        for (int rule = 3; rule < 5; rule++) {
            is("0: ", dealt(votes(0, 0), 0, 0, rule, 3));
            is("0: ", dealt(people(0, 0, 0), 2, 0, rule, 3));
            is("0: ", dealt(house(0, 0), 0, 0, rule, 1));
            Seattable least = votes(0, 0);
            least.setBounds(false, 0, 3, 3);
            is("0: ", dealt(least, 0, 0, rule, 3));
        }
        says("section 3: quota rules are without bounds");
        Seattable x = votes(50, 30, 20);
        x.setBounds(false, 0, 0, 1);
        x.setBounds(false, 2, 9, 9);
        is("1: 5 3 2|", dealt(x, 0, 0, 3, 10));
        is("1: 5 3 2|", dealt(x, 0, 0, 4, 10));
        says("section 3: quotas are of the claims behind the bar");
        Seattable y = votes(70, 20, 10);
        y.setBar(15, 100);
        is("1: 7 2 0|", dealt(y, 0, 0, 3, 9));
    }

    private static void rows() {
        Seattable x = house(2, 2);
        x.setVotes(0, 0, 90);
        x.setVotes(1, 0, 10);
        x.setVotes(1, 1, 80);
        x.setPeople(0, 1);
        x.setPeople(1, 4);
        says("section 2: row 0 the parties by their votes in all lands together");
        is("1: 5 5|", dealt(x, 0, 0, 3, 10));
        says("section 2: row 1 the parties by their votes in a told land");
        is("1: 9 1|", dealt(x, 1, 0, 3, 10));
        is("1: 0 10|", dealt(x, 1, 1, 3, 10));
        says("section 2: row 2 the lands by their people");
        is("1: 2 8|", dealt(x, 2, 0, 3, 10));
        says("15: the land is of no meaning in other rows than 1");
        is("1: 5 5|", dealt(x, 0, FAR, 3, 10));
        is("1: 5 5|", dealt(x, 0, -1, 3, 10));
        is("1: 2 8|", dealt(x, 2, LOW, 3, 10));
        says("15: IndexOutOfBoundsException if the row is 1 and there is no such land");
        isRefused(BOUNDS, () -> x.deal(1, 2, 0, 1));
        isRefused(BOUNDS, () -> x.deal(1, -1, 0, 1));
        isRefused(BOUNDS, () -> x.deal(1, FAR, 0, 1));
        isRefused(BOUNDS, () -> house(1, 0).deal(1, 0, 0, 1));
        says("15: row 0 to 2");
        isRefused(ARGUMENT, () -> x.deal(-1, 0, 0, 1));
        isRefused(ARGUMENT, () -> x.deal(3, 0, 0, 1));
        isRefused(ARGUMENT, () -> x.deal(3, 9, 0, 1));
        isRefused(ARGUMENT, () -> x.deal(FAR, 0, 0, 1));
        isRefused(ARGUMENT, () -> x.deal(LOW, 0, 0, 1));
        says("15: rule 0 to 4");
        is(1, x.deal(0, 0, 4, 10));
        isRefused(ARGUMENT, () -> x.deal(0, 0, -1, 1));
        isRefused(ARGUMENT, () -> x.deal(0, 0, 5, 1));
        isRefused(ARGUMENT, () -> x.deal(0, 0, LOW, 1));
        says("15: house 1 to 400");
        is("1: 360 40|", dealt(x, 1, 0, 0, 400));
        is("1: 1 0|", dealt(x, 1, 0, 0, 1));
        isRefused(ARGUMENT, () -> x.deal(1, 0, 0, 0));
        isRefused(ARGUMENT, () -> x.deal(1, 0, 0, 401));
        isRefused(ARGUMENT, () -> x.deal(1, 0, 0, LOW));
        isRefused(ARGUMENT, () -> x.deal(1, 0, 0, FAR));
        says("15: of several exceptions the first one listed");
        isRefused(BOUNDS, () -> x.deal(1, 2, 5, 0));
        says("15: refused calls leave the latest deal as it is");
        is("1 0|", results(x));
    }

    private static void seatsThatAreAsked() {
        Seattable x = votes(10, 10, 0);
        says("15: an act, also without a result");
        int acts = x.count(10);
        is("2: 1 0 0|0 1 0|", dealt(x, 0, 0, 0, 1));
        is(acts + 1, x.count(10));
        x.setBounds(false, 2, 5, 5);
        is(0, x.deal(0, 0, 0, 1));
        is(acts + 3, x.count(10));
        is(0, x.count(7));
        isRefused(BOUNDS, () -> x.seatAt(0, 0));
        is("1 0 0|0 1 0|", results(undone(x)));
        says("16: IndexOutOfBoundsException if there is no such result");
        is(1, x.seatAt(0, 0));
        is(1, x.seatAt(1, 1));
        is(0, x.seatAt(1, 2));
        isRefused(BOUNDS, () -> x.seatAt(2, 0));
        isRefused(BOUNDS, () -> x.seatAt(-1, 0));
        isRefused(BOUNDS, () -> x.seatAt(FAR, 0));
        isRefused(BOUNDS, () -> x.seatAt(LOW, 0));
        isRefused(BOUNDS, () -> votes(1).seatAt(0, 0));
        says("16: or no such party or land was in the row then");
        isRefused(BOUNDS, () -> x.seatAt(0, 3));
        isRefused(BOUNDS, () -> x.seatAt(0, -1));
        isRefused(BOUNDS, () -> x.seatAt(0, FAR));
        isRefused(BOUNDS, () -> x.seatAt(0, LOW));
        x.addParty();
        isRefused(BOUNDS, () -> x.seatAt(0, 3));
        says("16: of the latest deal, also if votes were set behind it");
        x.setVotes(0, 0, 0);
        is(1, x.seatAt(0, 0));
        x.addLand();
        x.setPeople(1, 3);
        is("1: 0 5|", dealt(x, 2, 0, 0, 5));
        is(5, x.seatAt(0, 1));
        isRefused(BOUNDS, () -> x.seatAt(0, 2));
        isRefused(BOUNDS, () -> x.seatAt(1, 0));
        says("16: a row without anybody has no results");
        Seattable none = house(0, 1);
        is(0, none.deal(0, 0, 0, 1));
        is(0, none.deal(1, 0, 0, 1));
        is(0, house(1, 0).deal(2, 0, 0, 1));
    }

    private static void quotas() {
        Seattable x = votes(70, 20, 10);
        x.setPeople(0, 1000000);
        says("17: the quota of one in a house");
        is("1 7/10", quota(x, 0, 0, 1, 0));
        is("1 40/1", quota(x, 1, 0, 400, 2));
        is("1 400/1", quota(x, 2, 0, 400, 0));
        is("1 5/1", quota(votes(1), 0, 0, 5, 0));
        says("17: 0 if the claim is 0, or if the sum of the claims is 0");
        is("0 0/1", quota(votes(5, 0), 0, 0, 9, 1));
        is("0 0/1", quota(votes(0, 0), 0, 0, 9, 1));
        is("0 0/1", quota(votes(0, 0), 1, 0, 9, 0));
        is("0 0/1", quota(people(0, 0), 2, 0, 9, 1));
        says("17: the board has 0 then in place of what was there");
        Seattable y = votes(1, 2);
        is("1 1/1", quota(y, 0, 0, 3, 0));
        is("0 0/1", quota(y, 2, 0, 3, 0));
        says("17: the land is of no meaning in other rows than 1");
        is("1 7/10", quota(x, 0, FAR, 1, 0));
        is("1 1/1", quota(x, 2, -1, 1, 0));
        says("17: IndexOutOfBoundsException if the row is 1 and there is no such land");
        isRefused(BOUNDS, () -> x.quota(1, 1, 1, 0));
        isRefused(BOUNDS, () -> x.quota(1, -1, 1, 0));
        says("17: or it is 0 to 2 and there is no such party or land in it");
        isRefused(BOUNDS, () -> x.quota(0, 0, 1, 3));
        isRefused(BOUNDS, () -> x.quota(0, 0, 1, -1));
        isRefused(BOUNDS, () -> x.quota(1, 0, 1, 3));
        isRefused(BOUNDS, () -> x.quota(1, 0, 1, LOW));
        isRefused(BOUNDS, () -> x.quota(2, 0, 1, 1));
        isRefused(BOUNDS, () -> x.quota(2, 0, 1, -1));
        isRefused(BOUNDS, () -> x.quota(2, 0, 1, FAR));
        says("17: IllegalArgumentException if row or house is out of range");
        isRefused(ARGUMENT, () -> x.quota(-1, 0, 1, 0));
        isRefused(ARGUMENT, () -> x.quota(3, 0, 1, 0));
        isRefused(ARGUMENT, () -> x.quota(0, 0, 0, 0));
        isRefused(ARGUMENT, () -> x.quota(0, 0, 401, 0));
        isRefused(ARGUMENT, () -> x.quota(2, 0, LOW, 0));
        says("17: a row out of range is so also for a number that is nowhere");
        isRefused(ARGUMENT, () -> x.quota(3, 7, 1, 7));
        isRefused(ARGUMENT, () -> x.quota(-1, -1, 1, -1));
        says("17: of several exceptions the first one listed");
        isRefused(BOUNDS, () -> x.quota(1, 1, 0, 0));
        isRefused(BOUNDS, () -> x.quota(0, 0, 401, 3));
        says("17: no act, and the board stays if it is refused");
        is("1/1", board(x));
        is(8, x.count(10));
    }

    private static void growth() {
        says("section 5, law 0: h from 1 to the told house less 1, h and h + 1");
        // 1 1 1 of 3 and 2 2 0 of 4.
        Seattable x = votes(6, 6, 2);
        is(3002, x.breaks(0, 0, 0, 3, 4));
        is(NONE, x.breaks(0, 0, 0, 3, 3));
        is(NONE, x.breaks(0, 0, 0, 3, 1));
        is(3002, x.breaks(0, 0, 0, 3, 60));
        says("section 5, law 0: the first case, and the first such one (both that lose are alike)");
        Seattable two = votes(3, 27, 3, 22, 9);
        is(10000, two.breaks(0, 0, 0, 3, 11));
        is(NONE, two.breaks(0, 0, 0, 3, 10));
        says("section 5: cases without a result are passed over (more than 3 have none)");
        Seattable few = votes(10, 1);
        few.setBounds(false, 0, 0, 2);
        few.setBounds(false, 1, 0, 1);
        for (int rule = 0; rule < 3; rule++) {
            is(NONE, few.breaks(0, 0, 0, rule, 6));
        }
        few.setBounds(false, 0, 2, 2);
        is(NONE, few.breaks(0, 0, 0, 0, 6));
        is(NONE, votes(0, 0).breaks(0, 0, 0, 3, 60));
        is(NONE, house(0, 0).breaks(0, 0, 0, 0, 60));
        says("section 5: the laws are tried with first results alone (of 1 the first one has it, of 3 both others)");
        is(NONE, votes(5, 5).breaks(0, 0, 0, 3, 9));
        says("section 5: row 1 and row 2");
        is(3002, x.breaks(0, 1, 0, 3, 9));
        is(3002, people(6, 6, 2).breaks(0, 2, -1, 3, 9));
        is(NONE, x.breaks(0, 2, 0, 3, 9));
    }

    private static void joining() {
        says("section 5, law 1: has fewer seats than a and b together (1 + 1 of 4; with 2 votes it has 1)");
        Seattable x = votes(1, 1, 6);
        x.setPost(0, 1);
        is(1, x.breaks(1, 0, 0, 0, 4));
        is(1, x.breaks(1, 1, 0, 0, 4));
        says("section 5, law 1: as many are not fewer");
        x.setPost(1, 1);
        is(NONE, x.breaks(1, 0, 0, 0, 4));
        says("section 5, law 1: a below b, by a then by b");
        Seattable y = votes(7, 5, 6, 8, 6);
        y.setPost(0, 1);
        is(1003, y.breaks(1, 0, 0, 0, 6));
        Seattable z = votes(3, 6, 2, 5, 4);
        z.setPost(0, 1);
        is(2004, z.breaks(1, 0, 0, 0, 8));
        says("section 5, law 1: with claims above 0 (2 1 2 of 5, and 1 of these by its least number alone)");
        Seattable none = votes(5, 0, 5);
        none.setBounds(false, 1, 1, 9);
        is("1: 2 1 2|", dealt(none, 0, 0, 0, 5));
        is(NONE, none.breaks(1, 0, 0, 0, 5));
        says("section 5, law 1: b having none, bounds as they are");
        Seattable bound = votes(10, 10, 10);
        bound.setBounds(false, 0, 0, 2);
        is("1: 2 2 2|", dealt(bound, 0, 0, 0, 6));
        is(1, bound.breaks(1, 0, 0, 0, 6));
        says("section 5: cases without a result are passed over");
        Seattable full = votes(10, 10);
        full.setBounds(false, 0, 0, 2);
        full.setBounds(false, 1, 0, 2);
        is(NONE, full.breaks(1, 0, 0, 0, 4));
        is(NONE, full.breaks(1, 0, 0, 0, 5));
        says("section 5: claims are changed as they are behind the bar (the 1 and 1 have none)");
        x.setPost(0, 1);
        x.setBar(2, 8);
        is(NONE, x.breaks(1, 0, 0, 0, 4));
        x.setBar(1, 8);
        is(1, x.breaks(1, 0, 0, 0, 4));
        says("18: IllegalArgumentException if the law is 1 and the row 2");
        isRefused(ARGUMENT, () -> x.breaks(1, 2, 0, 0, 5));
    }

    private static void leaving() {
        says("section 5, law 2: somebody else has another number of seats (0.5 and 1.5 of 2)");
        Seattable x = votes(6, 6, 2);
        is(1, x.breaks(2, 0, 0, 3, 3));
        says("section 5, law 2: each one n by its number, and the first such one");
        is(1002, votes(13, 16, 27, 5).breaks(2, 0, 0, 3, 6));
        // 3 4 2 1 of 10, and 4 0 1 1 of 6.
        is(1000, votes(9, 11, 4, 2).breaks(2, 0, 0, 3, 10));
        says("section 5, law 2: n has seats (without the first one, who has none, the others would change)");
        is(NONE, votes(3, 97, 11, 46).breaks(2, 0, 0, 3, 9));
        says("section 5, law 2: n has a claim above 0 (the first one has a seat by its least number)");
        Seattable least = votes(0, 7, 5);
        least.setBounds(false, 0, 1, 1);
        is("1: 1 2 2|", dealt(least, 0, 0, 0, 5));
        is(NONE, least.breaks(2, 0, 0, 0, 5));
        says("section 5, law 2: a claim of 1 is above 0 (1 1 2 4 of 8, and 2 - 1 4 of 7)");
        is(1000, votes(3, 1, 4, 9).breaks(2, 0, 0, 4, 8));
        is(1, votes(1, 4, 10, 12).breaks(2, 0, 0, 4, 3));
        says("section 5, law 2: if seats are left");
        is(NONE, votes(10).breaks(2, 0, 0, 0, 3));
        is(NONE, votes(100, 1).breaks(2, 0, 0, 3, 2));
        is(NONE, votes(100, 1).breaks(2, 0, 0, 3, 1));
        says("section 5, law 2: one seat is enough to be left (the second one has it, without the first the third)");
        is(NONE, votes(100, 60, 59).breaks(2, 0, 0, 3, 2));
        says("section 5: cases without a result are passed over");
        Seattable none = votes(10, 10);
        none.setBounds(false, 0, 2, 2);
        is("1: 2 1|", dealt(none, 0, 0, 0, 3));
        is(NONE, none.breaks(2, 0, 0, 0, 3));
        is(NONE, none.breaks(2, 0, 0, 0, 1));
        says("section 5, law 2 for lands");
        is(1, people(6, 6, 2).breaks(2, 2, 0, 3, 3));
    }

    private static void gaining() {
        says("section 5, law 3: a has fewer seats and b more (19 and 49 of 109; then 20 and 50)");
        is(3000, votes(49, 27, 14, 19).breaks(3, 0, 0, 4, 20));
        is(3, votes(16, 22, 78, 90).breaks(3, 0, 0, 4, 16));
        says("section 5, law 3: by a then by b");
        is(5000, votes(96, 67, 10, 96, 10, 10).breaks(3, 0, 0, 4, 6));
        is(4002, votes(16, 16, 95, 95, 16).breaks(3, 0, 0, 4, 5));
        says("section 5, law 3: 11 tenths of it, rounded down");
        is(NONE, votes(47, 18, 1, 30, 4).breaks(3, 0, 0, 4, 17));
        is(2004, votes(8, 13, 19, 46, 57).breaks(3, 0, 0, 4, 10));
        says("section 5, law 3: though the claim of a grew by a greater share than that of b");
        is(NONE, votes(5, 7, 3, 3, 12).breaks(3, 0, 0, 3, 9));
        says("section 5, law 3: with claims above 0");
        is(NONE, votes(0, 9, 0).breaks(3, 0, 0, 3, 9));
        says("section 5: divisor rules keep the laws 0 and 3");
        Seattable x = votes(49, 27, 14, 19);
        for (int rule = 0; rule < 3; rule++) {
            is(NONE, x.breaks(0, 0, 0, rule, 60));
            is(NONE, x.breaks(3, 0, 0, rule, 20));
        }
        says("section 5, law 3 for lands");
        is(3000, people(49, 27, 14, 19).breaks(3, 2, 9, 4, 20));
    }

    private static void lawsThatAreAsked() {
        Seattable x = votes(6, 6, 2);
        says("18: law 0 to 3");
        isRefused(ARGUMENT, () -> x.breaks(-1, 0, 0, 0, 5));
        isRefused(ARGUMENT, () -> x.breaks(4, 0, 0, 0, 5));
        isRefused(ARGUMENT, () -> x.breaks(LOW, 0, 0, 0, 5));
        says("18: row 0 to 2");
        isRefused(ARGUMENT, () -> x.breaks(0, -1, 0, 0, 5));
        isRefused(ARGUMENT, () -> x.breaks(0, 3, 0, 0, 5));
        says("18: rule 0 to 4");
        isRefused(ARGUMENT, () -> x.breaks(0, 0, 0, -1, 5));
        isRefused(ARGUMENT, () -> x.breaks(0, 0, 0, 5, 5));
        says("18: house 1 to 60");
        isRefused(ARGUMENT, () -> x.breaks(0, 0, 0, 0, 0));
        isRefused(ARGUMENT, () -> x.breaks(0, 0, 0, 0, 61));
        isRefused(ARGUMENT, () -> x.breaks(0, 0, 0, 0, FAR));
        // 26 26 8 of 60; 12 together and 2 have 51 and 9.
        is(1, x.breaks(1, 0, 0, 0, 60));
        is(NONE, x.breaks(3, 0, 0, 0, 60));
        for (int law = 0; law < 4; law++) {
            is(NONE, x.breaks(law, 0, 0, 0, 1));
        }
        says("18: the land is of no meaning in other rows than 1");
        is(3002, x.breaks(0, 0, FAR, 3, 4));
        says("18: IndexOutOfBoundsException if the row is 1 and there is no such land");
        isRefused(BOUNDS, () -> x.breaks(0, 1, 1, 0, 5));
        isRefused(BOUNDS, () -> x.breaks(0, 1, -1, 0, 5));
        says("18: of several exceptions the first one listed");
        isRefused(BOUNDS, () -> x.breaks(4, 1, 1, 5, 61));
        says("18: no act; the latest deal stays");
        is(6 + 1, x.count(10));
        is(0, x.count(7));
        x.deal(0, 0, 3, 3);
        x.breaks(0, 0, 0, 3, 60);
        is("1 1 1|", results(x));
        says("18: a house without a result breaks no law");
        Seattable least = votes(6, 6);
        least.setBounds(false, 0, 9, 9);
        for (int law = 0; law < 4; law++) {
            is(NONE, least.breaks(law, 0, 0, 0, 5));
        }
    }

    /** Two parties that share three lands as 60 and 40; each land has one seat. */
    private static Seattable threeLands() {
        Seattable x = house(2, 3);
        for (int land = 0; land < 3; land++) {
            x.setVotes(0, land, 60);
            x.setVotes(1, land, 40);
            x.setSum(true, land, 1);
        }
        return x;
    }

    private static void floors() {
        Seattable x = threeLands();
        says("section 6: each land has its sum as seats of its own");
        is(3, x.tiers(0, 0, 1, 2));
        is(0, x.tiers(0, 0, 1, 3));
        x.setSum(true, 1, 2);
        is(4, x.tiers(0, 0, 1, 2) + x.tiers(0, 0, 1, 3));
        is(1, x.tiers(0, 0, 1, 3));
        says("section 6: a land with the sum 0 has none");
        x.setSum(true, 1, 0);
        is(2, x.tiers(0, 0, 1, 2));
        says("section 6: a land without a result has none");
        x.setVotes(0, 0, 0);
        x.setVotes(1, 0, 0);
        is(1, x.tiers(0, 0, 1, 2));
        is(1, x.tiers(3, 0, 1, 2));
        x.setBounds(false, 1, 2, 400);
        is(0, x.tiers(0, 0, 1, 2));
        is(1, x.tiers(3, 0, 1, 2));
        says("section 6: first results");
        Seattable alike = votes(5, 5);
        alike.setSum(true, 0, 3);
        is(2, alike.tiers(0, 0, 1, 2));
        is(1, alike.tiers(0, 0, 1, 3));
        is(2, alike.tiers(4, 0, 1, 2));
        says("section 6: the greatest seats of all lands");
        Seattable full = house(1, 5);
        for (int land = 0; land < 5; land++) {
            full.setVotes(0, land, 1);
            full.setSum(true, land, 40);
        }
        is(200, full.tiers(0, 0, 1, 2));
        is(200, full.tiers(0, 0, 1, 0));
        is(199, full.tiers(0, 0, 1, 1));
        says("23: a floor is told whatever the claims are");
        Seattable none = house(1, 0);
        is(0, none.tiers(0, 0, 1, 2));
    }

    private static void overhang() {
        Seattable x = threeLands();
        says("section 6: overhang is what a floor is above the claim in the base house (2 2 of 4)");
        is(1, x.tiers(0, 0, 4, 1));
        is(0, x.tiers(0, 0, 5, 1));
        is(2, x.tiers(0, 0, 1, 1));
        says("section 6: what the floor of another is below its claim does not count");
        x.setSum(true, 0, 10);
        // 6 + 1 + 1 and 4 of 12; the base house has 7 and 5, or 1 and 0.
        is(1, x.tiers(0, 0, 12, 1));
        is(11, x.tiers(0, 0, 1, 1));
        says("23: NONE if there is no claim in the base house");
        x.setBounds(false, 0, 0, 1);
        x.setBounds(false, 1, 0, 1);
        is(NONE, x.tiers(0, 0, 4, 1));
        is(10, x.tiers(3, 0, 2, 1));
        is(NONE, x.tiers(3, 0, 3, 1));
        is(NONE, votes(0, 0).tiers(0, 0, 4, 1));
        is(NONE, votes(0, 0).tiers(0, 3, 4, 1));
        is(NONE, house(0, 0).tiers(0, 0, 4, 1));
    }

    private static void evenedHouses() {
        Seattable x = threeLands();
        says("section 6: the least one from the base house on in which each claim is at least the floor");
        is(5, x.tiers(0, 0, 1, 0));
        is(5, x.tiers(0, 0, 4, 0));
        is(5, x.tiers(0, 0, 5, 0));
        is(6, x.tiers(0, 0, 6, 0));
        is(400, x.tiers(0, 0, 400, 0));
        says("section 6: without floors it is the base house");
        is(1, votes(5, 5).tiers(0, 0, 1, 0));
        says("section 6: greater houses can be worse by a quota rule (1 1 1 of 3, 2 2 0 of 4, 2 2 1 of 5)");
        Seattable two = house(3, 2);
        two.setVotes(0, 0, 6);
        two.setVotes(1, 0, 6);
        two.setVotes(2, 1, 2);
        two.setSum(true, 1, 1);
        is(3, two.tiers(0, 3, 1, 0));
        is(5, two.tiers(0, 3, 4, 0));
        says("section 6: up to 400");
        Seattable far = house(2, 2);
        far.setVotes(0, 0, 1);
        far.setVotes(1, 1, 798);
        far.setSum(true, 0, 1);
        is(400, far.tiers(0, 0, 1, 0));
        is(400, far.tiers(0, 0, 400, 0));
        far.setVotes(1, 1, 799);
        is(400, far.tiers(0, 0, 1, 0));
        far.setVotes(1, 1, 800);
        is(NONE, far.tiers(0, 0, 1, 0));
        is(NONE, far.tiers(0, 0, 400, 0));
        says("23: NONE if there is none up to 400 (a floor of one below the bar in all lands)");
        far.setVotes(1, 1, 99);
        far.setBar(1, 50);
        is(1, far.tiers(0, 0, 10, 2));
        is(1, far.tiers(0, 0, 10, 1));
        is(NONE, far.tiers(0, 0, 10, 0));
        far.setBar(1, 100);
        is(50, far.tiers(0, 0, 10, 0));
        says("section 6: houses without a result are passed over");
        Seattable least = votes(5, 5);
        least.setBounds(false, 0, 3, 4);
        least.setBounds(false, 1, 3, 4);
        is(6, least.tiers(0, 0, 1, 0));
        is(8, least.tiers(0, 0, 8, 0));
        is(NONE, least.tiers(0, 0, 9, 0));
        says("section 6: the claims by another rule (6 and 1: rule 1 has 1 1, rule 0 has 2 0)");
        Seattable rules = votes(6, 1);
        rules.setSum(true, 0, 2);
        is(1, rules.tiers(1, 0, 2, 3));
        is(0, rules.tiers(0, 1, 2, 3));
        is(4, rules.tiers(1, 0, 2, 0));
        is(3, rules.tiers(0, 1, 2, 0));
    }

    private static void tiersThatAreAsked() {
        Seattable x = threeLands();
        says("23: the rules 0 to 4");
        isRefused(ARGUMENT, () -> x.tiers(-1, 0, 1, 0));
        isRefused(ARGUMENT, () -> x.tiers(5, 0, 1, 0));
        isRefused(ARGUMENT, () -> x.tiers(0, -1, 1, 0));
        isRefused(ARGUMENT, () -> x.tiers(0, 5, 1, 0));
        is(3, x.tiers(4, 4, 1, 2));
        says("23: base 1 to 400");
        isRefused(ARGUMENT, () -> x.tiers(0, 0, 0, 0));
        isRefused(ARGUMENT, () -> x.tiers(0, 0, 401, 0));
        isRefused(ARGUMENT, () -> x.tiers(0, 0, LOW, 0));
        says("23: IndexOutOfBoundsException if what is less than 0, or there is no such party");
        isRefused(BOUNDS, () -> x.tiers(0, 0, 1, -1));
        isRefused(BOUNDS, () -> x.tiers(0, 0, 1, 4));
        isRefused(BOUNDS, () -> x.tiers(0, 0, 1, FAR));
        isRefused(BOUNDS, () -> x.tiers(0, 0, 1, LOW));
        isRefused(BOUNDS, () -> house(0, 1).tiers(0, 0, 1, 2));
        says("23: of several exceptions the first one listed");
        isRefused(ARGUMENT, () -> x.tiers(5, 0, 1, -1));
        isRefused(ARGUMENT, () -> x.tiers(0, 0, 401, 9));
        says("23: a question: no act, no board, no deal");
        int acts = x.count(10);
        x.tiers(0, 0, 1, 0);
        is(acts, x.count(10));
        is(0, x.count(7));
        is("0/1", board(x));
    }

    public static void main(String[] args) {
        quotientsAboveAllNumbers();
        signposts();
        bounds();
        alikeOnes();
        quotaRules();
        rows();
        seatsThatAreAsked();
        quotas();
        growth();
        joining();
        leaving();
        gaining();
        lawsThatAreAsked();
        floors();
        overhang();
        evenedHouses();
        tiersThatAreAsked();
        finish("RowsEdgesTest");
    }
}
