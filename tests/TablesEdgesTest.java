/** The edges of section 4 and of the promises 19 to 22, each sentence by itself. */
public final class TablesEdgesTest extends Checks {
    private static final int[] ONES = {1, 1};

    private static String filled(Seattable x) {
        int many = x.fill();
        return many + ": " + tables(x);
    }

    private static Seattable two(int a, int b, int c, int d) {
        return table(new int[][] {{a, b}, {c, d}}, ONES, ONES);
    }

    /** As many parties as lands, with the same votes in each cell and one seat for each. */
    private static Seattable square(int size) {
        int[][] votes = new int[size][size];
        int[] sums = new int[size];
        for (int i = 0; i < size; i++) {
            sums[i] = 1;
            for (int k = 0; k < size; k++) {
                votes[i][k] = 7;
            }
        }
        return table(votes, sums, sums);
    }

    private static void refusals() {
        says("19: IllegalStateException if there is no party or land");
        isRefused(STATE, () -> new Seattable().fill());
        isRefused(STATE, () -> house(1, 0).fill());
        isRefused(STATE, () -> house(0, 1).fill());
        is(1, house(1, 1).fill());
        says("19: IllegalStateException if t is 0");
        Seattable x = two(10, 1, 1, 10);
        is("1: 1 0|0 1|-|", filled(x));
        x.setPost(0, 1);
        isRefused(STATE, () -> x.fill());
        x.setPost(1, 1000);
        is(1, x.fill());
        x.setPost(1, 1);
        is(1, x.fill());
        says("19: IllegalStateException if the sums of the parties are together more than 40");
        Seattable y = table(new int[][] {{9, 9}, {9, 9}}, new int[] {39, 1}, new int[] {20, 20});
        is(2, y.fill());
        y.setSum(false, 1, 2);
        isRefused(STATE, () -> y.fill());
        y.setSum(false, 0, 0);
        y.setSum(false, 1, 40);
        is("1: 0 0|20 20|-|", filled(y));
        says("19: the sums of the lands may be more");
        y.setSum(true, 0, 40);
        y.setSum(true, 1, 40);
        is(0, y.fill());
        is("1 3 3 40 80", cut(y));
        says("19: refused calls leave the latest tables, and are no act");
        int acts = x.count(10);
        x.setPost(0, 9);
        isRefused(STATE, () -> x.fill());
        is("1 0|0 1|-|", tables(x));
        is(acts, x.count(10));
    }

    private static void rightTables() {
        says("19: an act, also without a table");
        Seattable x = house(1, 1);
        is(1, x.fill());
        is(3, x.count(10));
        x.setSum(false, 0, 1);
        is(0, x.fill());
        is(5, x.count(10));
        is(0, x.count(8));
        says("19: taken back, the tables ahead are there again");
        is("0|-|", tables(undone(x)));
        says("section 4: each party and each land has its sum");
        is("1: 40|-|", filled(table(new int[][] {{1}}, new int[] {40}, new int[] {40})));
        is("1: 0 0|0 0|-|", filled(table(new int[][] {{5, 5}, {5, 5}}, new int[] {0, 0}, new int[] {0, 0})));
        is("1: 2 1|0 1|-|", filled(table(new int[][] {{20, 8}, {3, 8}}, new int[] {3, 1}, new int[] {2, 2})));
        says("section 4: a cell without votes has 0 seats");
        is("1: 0 1|1 0|-|", filled(two(1000000, 1, 1, 0)));
        is("1: 0 1|1 0|-|", filled(two(0, 1, 1, 1000000)));
        is("1: 0 0 2|0 1 0|3 0 0|-|", filled(table(new int[][] {{0, 0, 5}, {0, 5, 0}, {5, 0, 0}},
                new int[] {2, 1, 3}, new int[] {3, 1, 2})));
        says("section 4: s(x - 1) is at most p, and p at most s(x): both ways are right if they are the same");
        is("2: 1 0|0 1|-|0 1|1 0|-|", filled(two(10, 10, 10, 10)));
        is("2: 1 0|0 1|-|0 1|1 0|-|", filled(two(1000000, 1000, 1000, 1)));
        is("1: 1 0|0 1|-|", filled(two(1000000, 1000, 999, 1)));
        is("1: 0 1|1 0|-|", filled(two(1000000, 1000, 1001, 1)));
        is("1: 0 1|1 0|-|", filled(two(1000000, 999999, 999999, 999998)));
        says("section 4: s(n) = n + t: with t = 1 it is 2 * 2 for 1 * 1, as 12 * 3 for 3 * 3");
        Seattable y = table(new int[][] {{12, 3}, {3, 3}}, new int[] {2, 2}, new int[] {2, 2});
        is("1: 1 1|1 1|-|", filled(y));
        y.setPost(1, 1);
        is("2: 2 0|0 2|-|1 1|1 1|-|", filled(y));
        y.setPost(999, 1000);
        is("1: 1 1|1 1|-|", filled(y));
        says("section 4: with t = 1 / 2 it is 9, as 27 * 3 for 3 * 3");
        y.setPost(1, 2);
        y.setVotes(0, 0, 27);
        is("2: 2 0|0 2|-|1 1|1 1|-|", filled(y));
        y.setVotes(0, 0, 28);
        is("1: 2 0|0 2|-|", filled(y));
        says("section 4: votes of a party with the sum 0 and in a land with the sum 0 do not count");
        is("1: 1 0|0 0|-|", filled(table(new int[][] {{1, 1000000}, {1000000, 9}}, new int[] {1, 0},
                new int[] {1, 0})));
    }

    private static void orderOfTables() {
        says("section 4: more seats in the first cell in which they differ, by parties, then by lands");
        is("6: 1 0 0|0 1 0|0 0 1|-|1 0 0|0 0 1|0 1 0|-|0 1 0|1 0 0|0 0 1|-|0 1 0|0 0 1|1 0 0|-|0 0 1|1 0 0|0 1 0|-|"
                + "0 0 1|0 1 0|1 0 0|-|", filled(square(3)));
        is(24, square(4).fill());
        says("section 4: two blocks with two ways each");
        Seattable blocks = table(new int[][] {{7, 7, 0, 0}, {7, 7, 0, 0}, {0, 0, 9, 9}, {0, 0, 9, 9}},
                new int[] {1, 1, 1, 1}, new int[] {1, 1, 1, 1});
        is("4: 1 0 0 0|0 1 0 0|0 0 1 0|0 0 0 1|-|1 0 0 0|0 1 0 0|0 0 0 1|0 0 1 0|-|"
                + "0 1 0 0|1 0 0 0|0 0 1 0|0 0 0 1|-|0 1 0 0|1 0 0 0|0 0 0 1|0 0 1 0|-|", filled(blocks));
        says("section 4: at most the first 60 are told (of 120 the last one is 2, 1, 4, 3, 0)");
        Seattable x = square(5);
        is(60, x.fill());
        is(60, x.count(8));
        int[] last = {2, 1, 4, 3, 0};
        for (int cell = 0; cell < 25; cell++) {
            is(last[cell / 5] == cell % 5 ? 1 : 0, x.cellAt(59, cell / 5, cell % 5));
            is(cell / 5 == cell % 5 ? 1 : 0, x.cellAt(0, cell / 5, cell % 5));
        }
        isRefused(BOUNDS, () -> x.cellAt(60, 0, 0));
        isRefused(BOUNDS, () -> x.factor(60, false, 0));
        is("1 1/14", factorOf(x, 59, true, 4));
        says("section 4: just 60 (6 parties with a seat each in lands with 3, 2 and 1)");
        int[][] votes = new int[6][3];
        for (int[] row : votes) {
            row[0] = row[1] = row[2] = 5;
        }
        Seattable y = table(votes, new int[] {1, 1, 1, 1, 1, 1}, new int[] {3, 2, 1});
        is(60, y.fill());
        StringBuilder told = new StringBuilder();
        for (int party = 0; party < 6; party++) {
            told.append(y.cellAt(59, party, 0)).append(y.cellAt(59, party, 1)).append(y.cellAt(59, party, 2));
        }
        is("001010010100100100", told.toString());
        says("section 4: one table less than 60 (lands with 3, 2 and 1, but one cell without votes)");
        y.setVotes(0, 2, 0);
        is(50, y.fill());
        says("section 4: the greatest tables");
        Seattable full = table(new int[][] {{9, 9, 9, 9, 9}, {9, 9, 9, 9, 9}, {9, 9, 9, 9, 9}, {9, 9, 9, 9, 9},
            {9, 9, 9, 9, 9}, {9, 9, 9, 9, 9}}, new int[] {7, 7, 7, 7, 6, 6}, new int[] {8, 8, 8, 8, 8});
        is(60, full.fill());
        is(60 * (6 * 10 + 2), full.write(1));
        is(0, full.errors());
    }

    private static void cells() {
        Seattable x = two(10, 10, 10, 10);
        x.fill();
        says("20: the seats in a cell");
        is(1, x.cellAt(0, 0, 0));
        is(0, x.cellAt(0, 0, 1));
        is(0, x.cellAt(0, 1, 0));
        is(1, x.cellAt(1, 1, 0));
        says("20: IndexOutOfBoundsException if there is no such table");
        isRefused(BOUNDS, () -> x.cellAt(2, 0, 0));
        isRefused(BOUNDS, () -> x.cellAt(-1, 0, 0));
        isRefused(BOUNDS, () -> x.cellAt(FAR, 0, 0));
        isRefused(BOUNDS, () -> x.cellAt(LOW, 0, 0));
        isRefused(BOUNDS, () -> house(1, 1).cellAt(0, 0, 0));
        says("20: or no such party or land was there then");
        isRefused(BOUNDS, () -> x.cellAt(0, 2, 0));
        isRefused(BOUNDS, () -> x.cellAt(0, -1, 0));
        isRefused(BOUNDS, () -> x.cellAt(0, FAR, 0));
        isRefused(BOUNDS, () -> x.cellAt(0, 0, 2));
        isRefused(BOUNDS, () -> x.cellAt(0, 0, -1));
        isRefused(BOUNDS, () -> x.cellAt(0, 0, LOW));
        x.addParty();
        x.addLand();
        isRefused(BOUNDS, () -> x.cellAt(0, 2, 0));
        isRefused(BOUNDS, () -> x.cellAt(0, 0, 2));
        isRefused(BOUNDS, () -> x.factor(0, false, 2));
        isRefused(BOUNDS, () -> x.factor(0, true, 2));
        is("1 0|0 1|-|0 1|1 0|-|", tables(x));
        says("20: a party is no land: 1 party and 3 lands, 3 parties and 1 land");
        Seattable wide = table(new int[][] {{5, 5, 5}}, new int[] {3}, new int[] {1, 1, 1});
        wide.fill();
        is(1, wide.cellAt(0, 0, 2));
        isRefused(BOUNDS, () -> wide.cellAt(0, 1, 0));
        Seattable high = table(new int[][] {{5}, {5}, {5}}, new int[] {1, 1, 1}, new int[] {3});
        high.fill();
        is(1, high.cellAt(0, 2, 0));
        isRefused(BOUNDS, () -> high.cellAt(0, 0, 1));
        isRefused(BOUNDS, () -> high.factor(0, true, 1));
        is("1 1/3", factorOf(high, 0, false, 2));
        says("20: of the latest fill, also if votes and sums were set behind it");
        x.setVotes(0, 0, 0);
        x.setSum(true, 0, 7);
        is(1, x.cellAt(0, 0, 0));
        x.setSum(true, 0, 1);
        is(1, x.fill());
        is("0 1 0|1 0 0|0 0 0|-|", tables(x));
        is(0, x.cellAt(0, 2, 2));
        isRefused(BOUNDS, () -> x.cellAt(1, 0, 0));
        says("20 and 21: a fill taken back, the cells and factors of the fill ahead are told again");
        Seattable again = two(10, 1, 1, 20);
        again.fill();
        is("1 3/20", factorOf(again, 0, true, 0));
        again.setVotes(0, 0, 0);
        again.setVotes(0, 1, 8);
        again.setPost(1, 1);
        again.fill();
        is("0 1|1 0|-|", tables(again));
        is("1 10/1", factorOf(again, 0, true, 0));
        again.undo();
        is("1 0|0 1|-|", tables(again));
        is("1 3/20", factorOf(again, 0, true, 0));
    }

    private static void factorsOfOneBlock() {
        says("section 4: the first party with a sum above 0 begins a block, with the factor 1");
        Seattable x = table(new int[][] {{9, 9}, {10, 0}, {5, 0}}, new int[] {0, 1, 1}, new int[] {2, 0});
        is("1: 0 0|1 0|1 0|-|", filled(x));
        is("1 1/1", factorOf(x, 0, false, 1));
        says("section 4: its lands have the greatest factors (s(1) / 10), its parties the least ones (s(0) / 5 of it)");
        is("1 3/20", factorOf(x, 0, true, 0));
        is("1 2/3", factorOf(x, 0, false, 2));
        says("section 4: parties with the sum 0 have the factor 0");
        is("0 0/1", factorOf(x, 0, false, 0));
        says("section 4: lands that are in no block then have 1 (only the party with the sum 0 has votes there)");
        is("1 1/1", factorOf(x, 0, true, 1));
        says("section 4: a land without seats in which a party of the block has votes is in it (s(0) / 4)");
        x.setVotes(1, 1, 4);
        x.fill();
        is("1 1/8", factorOf(x, 0, true, 1));
        says("section 4: all factors at once with no seats at all");
        Seattable none = table(new int[][] {{10, 10}, {10, 0}}, new int[] {0, 0}, new int[] {0, 0});
        none.fill();
        is("0 0/1", factorOf(none, 0, false, 0));
        is("0 0/1", factorOf(none, 0, false, 1));
        is("1 1/1", factorOf(none, 0, true, 0));
        is("1 1/1", factorOf(none, 0, true, 1));
        says("section 4: s(n) = n + t with another t");
        Seattable y = table(new int[][] {{7}}, new int[] {2}, new int[] {2});
        y.setPost(1, 3);
        y.fill();
        is("1 1/3", factorOf(y, 0, true, 0));
        y.setPost(1, 1);
        is("1 1/3", factorOf(y, 0, true, 0));
        y.fill();
        is("1 3/7", factorOf(y, 0, true, 0));
        says("section 4: possible at once: what a land may have goes on to its parties, and from these to other lands");
        Seattable z = table(new int[][] {{30, 10, 0}, {20, 0, 10}}, new int[] {2, 2}, new int[] {2, 1, 1});
        is("1: 1 1 0|1 0 1|-|", filled(z));
        is("1 1/20", factorOf(z, 0, true, 0));
        is("1 1/2", factorOf(z, 0, false, 1));
        is("1 3/20", factorOf(z, 0, true, 1));
        is("1 3/10", factorOf(z, 0, true, 2));
        says("section 4: possible at once: a party with as many votes keeps a land below its signpost");
        Seattable same = two(10, 10, 10, 10);
        same.fill();
        for (int table = 0; table < 2; table++) {
            is("1 1/1", factorOf(same, table, false, 1));
            is("1 1/20", factorOf(same, table, true, 0));
            is("1 1/20", factorOf(same, table, true, 1));
        }
    }

    private static void factorsOfBlocks() {
        says("section 4: the first party in no block begins a block likewise");
        Seattable apart = two(10, 0, 0, 20);
        apart.fill();
        is("1 1/1", factorOf(apart, 0, false, 0));
        is("1 1/1", factorOf(apart, 0, false, 1));
        is("1 3/20", factorOf(apart, 0, true, 0));
        is("1 3/40", factorOf(apart, 0, true, 1));
        says("section 4: k keeps its parties below their signposts in the lands ahead: 1 / 2 for 40 * 3 / 20");
        Seattable x = two(10, 0, 40, 10);
        x.fill();
        is("1 1/12", factorOf(x, 0, false, 1));
        is("1 3/20", factorOf(x, 0, true, 0));
        says("section 4: the factors of its lands are divided by k");
        is("1 9/5", factorOf(x, 0, true, 1));
        says("section 4: k is at most 1 (it would be 5 / 3)");
        Seattable y = two(10, 0, 2, 10);
        y.fill();
        is("1 1/1", factorOf(y, 0, false, 1));
        is("1 3/20", factorOf(y, 0, true, 1));
        says("section 4: k is 1 if it is just so (t = 1: 1 for 5 * 2 / 10), and less with a vote more");
        Seattable just = two(10, 0, 5, 10);
        just.setPost(1, 1);
        just.fill();
        is("1 1/1", factorOf(just, 0, false, 1));
        is("1 1/5", factorOf(just, 0, true, 1));
        just.setVotes(1, 0, 6);
        just.fill();
        is("1 5/6", factorOf(just, 0, false, 1));
        is("1 6/25", factorOf(just, 0, true, 1));
        says("section 4: s(0) is t, also if t is not one part of something (3 / 4 for 40 * 7 / 40)");
        Seattable post = two(10, 0, 40, 10);
        post.setPost(3, 4);
        post.fill();
        is("1 7/40", factorOf(post, 0, true, 0));
        is("1 3/28", factorOf(post, 0, false, 1));
        is("1 49/30", factorOf(post, 0, true, 1));
        says("section 4: one vote in a land ahead is enough (1 / 2 for 1 * 3 / 2)");
        Seattable vote = two(1, 0, 1, 10);
        vote.fill();
        is("1 1/3", factorOf(vote, 0, false, 1));
        says("section 4: below all signposts in the lands ahead: the land with 3 / 20, not that with 3 / 40");
        int[] sums = {2, 1};
        int[] lands = {1, 1, 1};
        Seattable first = table(new int[][] {{10, 20, 0}, {40, 40, 10}}, sums, lands);
        first.fill();
        is("1 1/12", factorOf(first, 0, false, 1));
        Seattable second = table(new int[][] {{20, 10, 0}, {40, 40, 10}}, sums, lands);
        second.fill();
        is("1 1/12", factorOf(second, 0, false, 1));
        is("1 9/5", factorOf(second, 0, true, 2));
        says("section 4: all its parties keep below: the second one of the block, with a third of the factor, too");
        Seattable both = table(new int[][] {{10, 0}, {40, 10}, {120, 10}}, new int[] {1, 1, 1}, new int[] {1, 2});
        both.fill();
        is("1 1/12", factorOf(both, 0, false, 1));
        is("1 1/36", factorOf(both, 0, false, 2));
        both.setVotes(2, 0, 200);
        both.fill();
        is("1 1/20", factorOf(both, 0, false, 1));
        is("1 1/60", factorOf(both, 0, false, 2));
        thirdBlock();
    }

    private static void thirdBlock() {
        says("section 4: the lands of the blocks ahead as they are behind their k (9 / 5)");
        Seattable x = table(new int[][] {{10, 0, 0}, {40, 10, 0}, {0, 10, 10}}, new int[] {1, 1, 1},
                new int[] {1, 1, 1});
        is("1: 1 0 0|0 1 0|0 0 1|-|", filled(x));
        is("1 1/12", factorOf(x, 0, false, 1));
        is("1 9/5", factorOf(x, 0, true, 1));
        is("1 1/36", factorOf(x, 0, false, 2));
        is("1 27/5", factorOf(x, 0, true, 2));
        says("21: whether it is that of a land");
        is("1 3/20", factorOf(x, 0, true, 0));
        is("1 1/1", factorOf(x, 0, false, 0));
        says("21: of the latest fill, also if votes and t were set behind it");
        x.setVotes(1, 0, 0);
        x.setPost(1, 1);
        x.setSum(false, 1, 0);
        is("1 1/12", factorOf(x, 0, false, 1));
        says("21: IndexOutOfBoundsException if there is no such table");
        isRefused(BOUNDS, () -> x.factor(1, false, 0));
        isRefused(BOUNDS, () -> x.factor(-1, false, 0));
        isRefused(BOUNDS, () -> x.factor(FAR, true, 0));
        isRefused(BOUNDS, () -> house(1, 1).factor(0, true, 0));
        says("21: or no such party or land was there then");
        isRefused(BOUNDS, () -> x.factor(0, false, 3));
        isRefused(BOUNDS, () -> x.factor(0, false, -1));
        isRefused(BOUNDS, () -> x.factor(0, true, 3));
        isRefused(BOUNDS, () -> x.factor(0, true, -1));
        isRefused(BOUNDS, () -> x.factor(0, true, LOW));
        is("1/12", board(x));
        Seattable wide = table(new int[][] {{5, 5, 5}}, new int[] {3}, new int[] {1, 1, 1});
        wide.fill();
        is("1 3/10", factorOf(wide, 0, true, 2));
        isRefused(BOUNDS, () -> wide.factor(0, false, 1));
    }

    private static void cuts() {
        says("22: 0 if there was a table, or no fill()");
        Seattable x = two(10, 10, 10, 10);
        is("0 0 0 0 0", cut(x));
        x.fill();
        is("0 0 0 0 0", cut(x));
        says("section 4: its kind is 1 if the sums of all parties and of all lands together differ");
        x.setSum(false, 1, 2);
        x.fill();
        is("1 3 3 3 2", cut(x));
        x.setSum(false, 1, 0);
        x.fill();
        is("1 3 3 1 2", cut(x));
        says("section 4: otherwise it is 2 (also with a party that wants too much it is 1 then)");
        Seattable y = table(new int[][] {{0, 10, 0}, {10, 0, 0}, {10, 0, 0}}, new int[] {1, 1, 1}, new int[] {1, 1, 2});
        y.fill();
        is("1 7 7 3 4", cut(y));
        says("section 4: the set of parties for which these together want more than the lands have");
        y.setSum(true, 2, 1);
        is(0, y.fill());
        is("2 6 1 2 1", cut(y));
        says("section 4: also the set of all parties");
        Seattable all = two(10, 0, 10, 0);
        all.fill();
        is("2 3 1 2 1", cut(all));
        says("section 4: as many seats as they want are enough");
        y.setSum(true, 2, 0);
        y.setSum(true, 0, 2);
        is(1, y.fill());
        is("0 0 0 0 0", cut(y));
        says("section 4: the set with the least number (5 stands ahead of 8)");
        Seattable four = table(new int[][] {{10, 0}, {0, 10}, {10, 0}, {0, 0}}, new int[] {1, 1, 1, 1},
                new int[] {1, 3});
        four.fill();
        is("2 5 1 2 1", cut(four));
        four.setVotes(0, 1, 10);
        four.fill();
        is("2 8 0 1 0", cut(four));
        says("section 4: a party without votes has no lands, and a seat that it wants is too much");
        Seattable none = table(new int[][] {{0, 0}, {9, 9}}, ONES, ONES);
        none.fill();
        is("2 1 0 1 0", cut(none));
        says("section 4: a land with the sum 0 is among the lands, too");
        Seattable zero = table(new int[][] {{10, 10, 0}, {0, 0, 9}}, ONES, new int[] {0, 0, 2});
        zero.fill();
        is("2 1 3 1 0", cut(zero));
        says("22: what is 0 to 4");
        isRefused(ARGUMENT, () -> zero.cutAt(-1));
        isRefused(ARGUMENT, () -> zero.cutAt(5));
        isRefused(ARGUMENT, () -> zero.cutAt(LOW));
        isRefused(ARGUMENT, () -> zero.cutAt(FAR));
        says("22: of the latest fill, also if sums were set behind it, and it was taken back");
        zero.setSum(true, 0, 1);
        is("2 1 3 1 0", cut(zero));
        zero.fill();
        is("1 3 7 2 3", cut(zero));
        is("2 1 3 1 0", cut(undone(zero)));
        undone(zero);
        is("0 0 0 0 0", cut(undone(zero)));
        says("22: 6 parties and 5 lands");
        Seattable full = house(6, 5);
        full.setSum(true, 4, 40);
        full.fill();
        is("1 63 31 0 40", cut(full));
        full.setSum(false, 5, 40);
        full.fill();
        is("2 32 0 40 0", cut(full));
    }

    public static void main(String[] args) {
        refusals();
        rightTables();
        orderOfTables();
        cells();
        factorsOfOneBlock();
        factorsOfBlocks();
        cuts();
        finish("TablesEdgesTest");
    }
}
