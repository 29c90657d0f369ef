/** For each promise of the document: ordinary inputs, the edges that it names, and wrong inputs. */
public final class PromisesTest extends Checks {

    private static void newObject() {
        says("promise 1");
        Seattable x = new Seattable();
        for (int what = 0; what <= 11; what++) {
            is(what == 2 ? 2 : 0, x.count(what));
        }
        is(1, x.setMajority(5));
        is("0/1", board(x));
        is(0, x.clearText());
        is(0, x.cutAt(0));
        is(0, x.cutAt(4));
        is(STATE, thrown(() -> new Seattable().undo()));
        is(ELEMENT, thrown(() -> new Seattable().signAt(0)));
        is(-1, Seattable.NONE);
    }

    private static void partiesAndLands() {
        says("promise 2");
        Seattable x = new Seattable();
        for (int i = 0; i < 6; i++) {
            is(i, x.addParty());
        }
        is(STATE, thrown(x::addParty));
        is(6, x.count(0));
        is(6, x.count(10));
        says("promise 3");
        for (int i = 0; i < 5; i++) {
            is(i, x.addLand());
        }
        is(STATE, thrown(x::addLand));
        is(5, x.count(1));
        is(10, x.undo());
        is(4, x.count(1));
        is(4, x.addLand());
    }

    private static void votesAndPeople() {
        says("promise 4");
        Seattable x = house(2, 2);
        is(0, x.setVotes(1, 1, 1000000));
        is(1000000, x.setVotes(1, 1, 0));
        is(0, x.setVotes(1, 1, 7));
        is(0, x.setVotes(1, 0, 9));
        is(7, x.setVotes(1, 1, 8));
        is(BOUNDS, thrown(() -> x.setVotes(2, 0, 1)));
        is(BOUNDS, thrown(() -> x.setVotes(0, 2, -1)));
        is(BOUNDS, thrown(() -> x.setVotes(-1, 0, 1)));
        is(BOUNDS, thrown(() -> x.setVotes(0, LOW, FAR)));
        is(ARGUMENT, thrown(() -> x.setVotes(1, 1, -1)));
        is(ARGUMENT, thrown(() -> x.setVotes(1, 1, 1000001)));
        is(8, x.setVotes(1, 1, 8));
        says("promise 5");
        is(0, x.setPeople(1, 1000000));
        is(1000000, x.setPeople(1, 3));
        is(BOUNDS, thrown(() -> x.setPeople(2, -1)));
        is(BOUNDS, thrown(() -> x.setPeople(-1, 1)));
        is(ARGUMENT, thrown(() -> x.setPeople(0, -1)));
        is(ARGUMENT, thrown(() -> x.setPeople(0, 1000001)));
        is(3, x.setPeople(1, 0));
    }

    private static void boundsAndSums() {
        says("promise 6");
        Seattable x = votes(90, 10);
        x.setBounds(false, 1, 2, 400);
        x.deal(0, 0, 0, 10);
        is("8 2|", results(x));
        x.setBounds(false, 0, 0, 3);
        is(1, x.deal(0, 0, 0, 10));
        is("3 7|", results(x));
        x.setBounds(true, 0, 400, 400);
        x.setPeople(0, 1);
        is(0, x.deal(2, 0, 0, 399));
        is(1, x.deal(2, 0, 0, 400));
        is(BOUNDS, thrown(() -> x.setBounds(false, 2, 1, 0)));
        is(BOUNDS, thrown(() -> x.setBounds(true, 1, 0, 0)));
        is(BOUNDS, thrown(() -> x.setBounds(true, -1, 0, 0)));
        is(ARGUMENT, thrown(() -> x.setBounds(true, 0, -1, 0)));
        is(ARGUMENT, thrown(() -> x.setBounds(true, 0, 401, 401)));
        is(ARGUMENT, thrown(() -> x.setBounds(true, 0, 3, 2)));
        is(ARGUMENT, thrown(() -> x.setBounds(true, 0, 0, 401)));
        says("promise 7");
        is(0, x.setSum(false, 1, 40));
        is(0, x.setSum(true, 0, 4));
        is(40, x.setSum(false, 1, 0));
        is(4, x.setSum(true, 0, 4));
        is(BOUNDS, thrown(() -> x.setSum(true, 1, 41)));
        is(BOUNDS, thrown(() -> x.setSum(false, 2, 1)));
        is(BOUNDS, thrown(() -> x.setSum(false, -1, 1)));
        is(ARGUMENT, thrown(() -> x.setSum(false, 0, 41)));
        is(ARGUMENT, thrown(() -> x.setSum(false, 0, -1)));
    }

    private static void shares() {
        says("promise 8");
        Seattable x = votes(95, 5);
        x.setBar(5, 100);
        x.deal(0, 0, 3, 20);
        is("19 1|", results(x));
        x.setBar(51, 1000);
        x.deal(1, 0, 3, 20);
        is("20 0|", results(x));
        x.setBar(1, 1);
        is(0, x.deal(0, 0, 3, 20));
        is(ARGUMENT, thrown(() -> x.setBar(-1, 5)));
        is(ARGUMENT, thrown(() -> x.setBar(6, 5)));
        is(ARGUMENT, thrown(() -> x.setBar(0, 0)));
        is(ARGUMENT, thrown(() -> x.setBar(1, 1001)));
        is(ARGUMENT, thrown(() -> x.setBar(-2, -1)));
        x.setPeople(0, 3);
        is(1, x.deal(2, 0, 3, 20));
        says("promise 9");
        Seattable y = votes(100, 30);
        y.setPost(1, 1);
        y.deal(0, 0, 0, 3);
        is("3 0|", results(y));
        y.setPost(0, 1000);
        y.deal(0, 0, 0, 3);
        is("2 1|", results(y));
        is(ARGUMENT, thrown(() -> y.setPost(-1, 5)));
        is(ARGUMENT, thrown(() -> y.setPost(6, 5)));
        is(ARGUMENT, thrown(() -> y.setPost(0, 0)));
        is(ARGUMENT, thrown(() -> y.setPost(1, 1001)));
    }

    private static void typing() {
        says("promise 10");
        Seattable x = new Seattable();
        is(5, x.type(0x7061727479L, 0, 0, 0, 0, 0));
        is(6, x.type(0, 0, 0, 0, 0, 0x3b00000000000000L));
        is(0, x.errorKind());
        is(1, x.load());
        is(3, x.type(0xff00000000000000L, 0xff00, 0, 0xff, 0, 0));
        is(1, x.errorKind());
        long eight = 0x2020202020202020L;
        x.clearText();
        for (int i = 1; i <= 12; i++) {
            is(48 * i, x.type(eight, eight, eight, eight, eight, eight));
        }
        is(STATE, thrown(() -> x.type(eight, eight, eight, 1, 0, 0)));
        is(600, x.type(eight, 0, eight, 0, eight, 0));
        is(600, x.type(0, 0, 0, 0, 0, 0));
        is(STATE, thrown(() -> x.type(0, 0, 0, 1, 0, 0)));
        is(1, x.count(10));
        says("promise 11");
        is(600, x.clearText());
        is(0, x.clearText());
    }

    private static void error(Seattable x, String text, int kind, int place) {
        x.clearText();
        type(x, text);
        String said = text + ": ";
        is(said + kind + " at " + place, said + x.errorKind() + " at " + x.errorPlace());
        if (kind != 0) {
            is(STATE, thrown(x::load));
            is(text.length(), x.clearText());
        }
    }

    private static void textErrors() {
        says("promise 12");
        Seattable x = house(2, 1);
        error(x, "", 0, -1);
        error(x, " \n ", 0, -1);
        error(x, "votes1 0 1000000;people 0 0;\nsum party 1 40;sum land0 0;bar 3 4;post 0 1;", 0, -1);
        error(x, "sumland0 0;", 2, 0);
        error(x, "party;votes 2 0 1; land; people 1 5;", 0, -1);
        error(x, "votes 000001 00 007;", 0, -1);
        error(x, "Party;", 1, 0);
        error(x, "votes 1000001 0 1;", 1, 6);
        error(x, "votes 0 0 99999999999999999999999999;", 1, 10);
        error(x, " 1000001", 1, 1);
        error(x, "land,", 1, 4);
        error(x, "bar 1 \u00ff", 1, 6);
        says("promise 13");
        error(x, ";", 2, 0);
        error(x, "partys;", 2, 0);
        error(x, "partyz;", 2, 0);
        error(x, "party{;", 1, 5);
        error(x, "part;", 2, 0);
        error(x, "qarty;", 2, 0);
        error(x, "a;", 2, 0);
        error(x, "z;", 2, 0);
        error(x, "land`;", 1, 4);
        error(x, "votes 0 0 5/;", 1, 11);
        error(x, "votes 0 0 5:;", 1, 11);
        error(x, "party", 2, 5);
        error(x, "party  \n", 2, 8);
        error(x, "party land;", 2, 6);
        error(x, "5;", 2, 0);
        error(x, "votes 0 0 ;", 2, 10);
        error(x, "votes 0 0 0 0;", 2, 12);
        error(x, "votes party 0 0;", 2, 6);
        error(x, "sum 0 0;", 2, 4);
        error(x, "sum votes 0 0;", 2, 4);
        error(x, "sum party ;", 2, 10);
        error(x, "bar 1", 2, 5);
        error(x, "votes 2 0 1;", 3, 6);
        error(x, "votes 0 1 1;", 3, 8);
        error(x, "people 1 1;", 3, 7);
        error(x, "sum land 1 1;", 3, 9);
        error(x, "sum party 2 99;", 3, 10);
        error(x, "party;party;party;party;party;", 4, 24);
        error(x, "land;land;land;land; land Z", 4, 21);
        error(x, "party;party;party;party;sum party 5 1;", 0, -1);
        error(x, "sum party 0 41;", 5, 12);
        error(x, "bar 3 2;", 5, 6);
        error(x, "post 0 0;", 5, 7);
        error(x, "bar 0 1001;", 5, 6);
        error(x, "post 2000 1000;", 5, 10);
        error(x, "bar 2000;", 2, 8);
        error(x, "party;sum party 2 41;Z", 5, 18);
        is(2, x.count(0));
    }

    private static void loading() {
        says("promise 14");
        Seattable x = new Seattable();
        is(0, x.load());
        is(1, x.count(10));
        type(x, "party;party;land;votes 0 0 60;votes 1 0 41;people 0 5;sum party 1 3;sum land 0 2;bar 1 2;post 1 1;");
        is(10, x.load());
        is(2, x.count(10));
        is(0, x.clearText());
        is(60, x.setVotes(0, 0, 60));
        is(5, x.setPeople(0, 5));
        is(3, x.setSum(false, 1, 3));
        is(2, x.setSum(true, 0, 2));
        x.deal(0, 0, 0, 2);
        is("2 0|", results(x));
        type(x, "party;land");
        is(STATE, thrown(x::load));
        is(2, x.count(0));
        is(10, x.clearText());
        for (int i = 0; i < 6; i++) {
            x.undo();
        }
        is(1, x.count(10));
        is(0, x.count(0));
        is(0, x.count(1));
    }

    private static void dealing() {
        says("promise 15");
        Seattable x = votes(53000, 24000, 23000);
        is(1, x.deal(0, 0, 0, 10));
        is("6 2 2|", results(x));
        x.setPost(1, 1);
        is(1, x.deal(1, 0, 0, 9));
        is("5 2 2|", results(x));
        is(3, x.deal(0, FAR, 1, 2));
        is("1 1 0|1 0 1|0 1 1|", results(x));
        is(3, x.deal(0, -1, 2, 1));
        is("1 0 0|0 1 0|0 0 1|", results(x));
        Seattable y = votes(10, 10, 10, 0);
        is(3, y.deal(0, 0, 3, 5));
        is("2 2 1 0|2 1 2 0|1 2 2 0|", results(y));
        is(1, y.deal(0, 0, 4, 6));
        is("2 2 2 0|", results(y));
        Seattable z = votes(60, 25, 15);
        z.deal(0, 0, 3, 4);
        is("2 1 1|", results(z));
        z.deal(0, 0, 4, 7);
        is("4 2 1|", results(z));
        Seattable small = votes(70, 20, 10);
        small.deal(0, 0, 3, 3);
        is("2 1 0|", results(small));
        small.deal(0, 0, 4, 4);
        is("2 1 1|", results(small));
        Seattable one = votes(1, 1);
        is(2, one.deal(0, 0, 3, 1));
        is(2, one.deal(0, 0, 4, 1));
        is(2, one.deal(0, 0, 0, 1));
        dealingEdges();
    }

    private static void dealingEdges() {
        Seattable none = house(0, 2);
        is(0, none.deal(0, 0, 0, 5));
        is(0, none.deal(0, 0, 3, 5));
        is(0, none.deal(2, 0, 0, 5));
        none.setPeople(1, 4);
        is(1, none.deal(2, 0, 0, 400));
        is("0 400|", results(none));
        is(7, none.count(10));
        Seattable bounded = votes(10, 0);
        bounded.setBounds(false, 1, 2, 9);
        is(0, bounded.deal(0, 0, 0, 1));
        is(1, bounded.deal(0, 0, 0, 2));
        is("0 2|", results(bounded));
        bounded.setBounds(false, 0, 0, 3);
        is(1, bounded.deal(0, 0, 1, 5));
        is("3 2|", results(bounded));
        is(0, bounded.deal(0, 0, 1, 6));
        is(1, bounded.deal(0, 0, 3, 6));
        is("6 0|", results(bounded));
        is(BOUNDS, thrown(() -> bounded.deal(1, 1, 9, 0)));
        is(BOUNDS, thrown(() -> bounded.deal(1, -1, 0, 1)));
        is(ARGUMENT, thrown(() -> bounded.deal(3, 0, 0, 1)));
        is(ARGUMENT, thrown(() -> bounded.deal(-1, 0, 0, 1)));
        is(ARGUMENT, thrown(() -> bounded.deal(0, 0, 5, 1)));
        is(ARGUMENT, thrown(() -> bounded.deal(0, 0, -1, 1)));
        is(ARGUMENT, thrown(() -> bounded.deal(0, 0, 0, 0)));
        is(ARGUMENT, thrown(() -> bounded.deal(0, 0, 0, 401)));
        is("6 0|", results(bounded));
        says("promise 16");
        is(6, bounded.seatAt(0, 0));
        is(0, bounded.seatAt(0, 1));
        bounded.addParty();
        is(BOUNDS, thrown(() -> bounded.seatAt(0, 2)));
        is(BOUNDS, thrown(() -> bounded.seatAt(1, 0)));
        is(BOUNDS, thrown(() -> bounded.seatAt(-1, 0)));
        is(BOUNDS, thrown(() -> bounded.seatAt(0, -1)));
        bounded.undo();
        bounded.undo();
        is(0, bounded.count(7));
        is(BOUNDS, thrown(() -> bounded.seatAt(0, 0)));
        is(BOUNDS, thrown(() -> new Seattable().seatAt(0, 0)));
    }

    private static void quotas() {
        says("promise 17");
        Seattable x = votes(53, 24, 23);
        is(1, x.quota(0, 0, 5, 0));
        is("53/20", board(x));
        is(1, x.quota(1, 0, 400, 2));
        is("92/1", board(x));
        is(0, x.quota(2, 0, 5, 0));
        is("0/1", board(x));
        x.setPeople(0, 3);
        is(1, x.quota(2, 77, 5, 0));
        is("5/1", board(x));
        x.setBar(1, 4);
        is(0, x.quota(0, 0, 5, 1));
        is(1, x.quota(0, 0, 5, 0));
        is("5/1", board(x));
        is(BOUNDS, thrown(() -> x.quota(1, 1, 0, 0)));
        is(BOUNDS, thrown(() -> x.quota(0, 0, 0, 3)));
        is(BOUNDS, thrown(() -> x.quota(2, 0, 0, 1)));
        is(BOUNDS, thrown(() -> x.quota(1, 0, 1, -1)));
        is(ARGUMENT, thrown(() -> x.quota(3, 0, 1, 9)));
        is(ARGUMENT, thrown(() -> x.quota(0, 0, 0, 0)));
        is(ARGUMENT, thrown(() -> x.quota(0, 0, 401, 0)));
        is("5/1", board(x));
        is(9, x.count(10));
    }

    private static void laws() {
        says("promise 18");
        Seattable x = votes(6, 6, 2);
        is(3002, x.breaks(0, 0, 0, 3, 11));
        is(-1, x.breaks(0, 0, 0, 3, 3));
        is(3002, x.breaks(0, 0, 0, 3, 4));
        is(-1, x.breaks(0, 1, 0, 0, 60));
        is(-1, x.breaks(0, 0, 0, 3, 1));
        is(3000, votes(2, 6, 6).breaks(0, 0, 0, 3, 4));
        // t = 0 is kind to small ones: two of them get more than one with the votes of both.
        Seattable small = votes(1, 1, 6);
        small.setPost(0, 1);
        is(1, small.breaks(1, 0, 0, 0, 4));
        small.setPost(1, 1);
        is(-1, small.breaks(1, 0, 0, 0, 4));
        // 1, 1 and 1 of 3 by the greatest rests; without the first one 6 and 2 share 2 seats as 2 and 0.
        is(1, x.breaks(2, 0, 0, 3, 3));
        is(-1, votes(60, 30, 10).breaks(2, 0, 0, 0, 10));
        // Without the first one, who has no seat, the others would share otherwise; but only one with seats counts.
        is(-1, votes(3, 97, 11, 46).breaks(2, 0, 0, 3, 9));
        // 8, 5, 3 and 4 of 20 by rule 4; with 20 for 19 and 50 for 49 it is 9, 5, 3 and 3.
        Seattable gaining = votes(49, 27, 14, 19);
        is(3000, gaining.breaks(3, 0, 0, 4, 20));
        is(3, votes(16, 22, 78, 90).breaks(3, 0, 0, 4, 16));
        is(2001, votes(22, 85, 19, 87).breaks(3, 0, 0, 4, 5));
        is(-1, gaining.breaks(3, 0, 0, 3, 20));
        is(-1, gaining.breaks(3, 0, 0, 0, 20));
        Seattable people = house(0, 3);
        people.setPeople(0, 1500);
        people.setPeople(1, 510);
        people.setPeople(2, 90);
        is(-1, people.breaks(3, 2, 0, 0, 25));
        is(BOUNDS, thrown(() -> x.breaks(9, 1, 1, 0, 5)));
        is(ARGUMENT, thrown(() -> x.breaks(4, 0, 0, 0, 5)));
        is(ARGUMENT, thrown(() -> x.breaks(-1, 0, 0, 0, 5)));
        is(ARGUMENT, thrown(() -> x.breaks(0, 3, 0, 0, 5)));
        is(ARGUMENT, thrown(() -> x.breaks(0, 0, 0, 5, 5)));
        is(ARGUMENT, thrown(() -> x.breaks(0, 0, 0, 0, 0)));
        is(ARGUMENT, thrown(() -> x.breaks(0, 0, 0, 0, 61)));
        is(ARGUMENT, thrown(() -> x.breaks(1, 2, 0, 0, 5)));
        is(-1, x.breaks(0, 2, 0, 0, 5));
    }

    private static void filling() {
        says("promise 19");
        int[][] same = {{10, 10}, {10, 10}};
        Seattable x = table(same, new int[] {1, 1}, new int[] {1, 1});
        is(2, x.fill());
        x.write(1);
        is("1 0\n0 1\n-\n0 1\n1 0\n-\n", read(x));
        is(0, x.errors());
        Seattable many = table(new int[][] {{7, 7, 7, 7}, {7, 7, 7, 7}, {7, 7, 7, 7}, {7, 7, 7, 7}, {7, 7, 7, 7}},
                new int[] {2, 2, 2, 2, 2}, new int[] {3, 3, 2, 2});
        is(60, many.fill());
        is(60, many.count(8));
        is(0, many.errors());
        Seattable empty = table(same, new int[] {0, 0}, new int[] {0, 0});
        is(1, empty.fill());
        empty.setPost(0, 3);
        is(STATE, thrown(empty::fill));
        is(1, empty.count(8));
        is(STATE, thrown(() -> house(1, 0).fill()));
        is(STATE, thrown(() -> house(0, 1).fill()));
        Seattable full = table(same, new int[] {40, 0}, new int[] {20, 20});
        is(1, full.fill());
        full.setSum(false, 1, 1);
        is(STATE, thrown(full::fill));
        full.setSum(false, 0, 39);
        is(2, full.fill());
        is(20, full.cellAt(0, 0, 0));
        x.setVotes(0, 0, 0);
        is(1, x.fill());
        x.write(1);
        is("0 1\n1 0\n-\n", read(x));
        x.undo();
        says("promise 20");
        is(1, full.cellAt(0, 1, 1) + full.cellAt(0, 1, 0));
        is(0, x.cellAt(1, 0, 0));
        is(1, x.cellAt(1, 0, 1));
        x.addParty();
        x.addLand();
        is(BOUNDS, thrown(() -> x.cellAt(2, 0, 0)));
        is(BOUNDS, thrown(() -> x.cellAt(-1, 0, 0)));
        is(BOUNDS, thrown(() -> x.cellAt(0, 2, 0)));
        is(BOUNDS, thrown(() -> x.cellAt(0, -1, 0)));
        is(BOUNDS, thrown(() -> x.cellAt(0, 0, 2)));
        is(BOUNDS, thrown(() -> x.cellAt(0, 0, -1)));
        is(BOUNDS, thrown(() -> new Seattable().cellAt(0, 0, 0)));
    }

    private static void factors() {
        says("promise 21");
        Seattable x = table(new int[][] {{10, 0, 4}, {0, 10, 0}, {5, 0, 0}}, new int[] {1, 1, 0}, new int[] {1, 1, 0});
        x.addLand();
        is(1, x.fill());
        x.setVotes(0, 0, 999);
        x.setPost(1, 1);
        is("1 1/1", factorOf(x, 0, false, 0));
        is("1 1/1", factorOf(x, 0, false, 1));
        is("0 0/1", factorOf(x, 0, false, 2));
        is("1 3/20", factorOf(x, 0, true, 0));
        is("1 3/20", factorOf(x, 0, true, 1));
        is("1 1/8", factorOf(x, 0, true, 2));
        is("1 1/1", factorOf(x, 0, true, 3));
        // The second block keeps below its signpost in the land of the first: k = (1/2) / (40 * 3/20) = 1/12.
        Seattable y = table(new int[][] {{10, 0}, {40, 10}}, new int[] {1, 1}, new int[] {1, 1});
        y.fill();
        is("1 1/12", factorOf(y, 0, false, 1));
        is("1 3/20", factorOf(y, 0, true, 0));
        is("1 9/5", factorOf(y, 0, true, 1));
        // One block: by the land the second party needs s(0) / (20 * l) at least.
        Seattable z = table(new int[][] {{30, 10}, {20, 0}}, new int[] {2, 1}, new int[] {2, 1});
        z.fill();
        is("1 1/20", factorOf(z, 0, true, 0));
        is("1 1/2", factorOf(z, 0, false, 1));
        is("1 3/20", factorOf(z, 0, true, 1));
        is(BOUNDS, thrown(() -> z.factor(1, true, 0)));
        is(BOUNDS, thrown(() -> z.factor(-1, true, 0)));
        is(BOUNDS, thrown(() -> z.factor(0, true, 2)));
        is(BOUNDS, thrown(() -> z.factor(0, false, -1)));
        is(BOUNDS, thrown(() -> new Seattable().factor(0, false, 0)));
        is("3/20", board(z));
        says("promise 22");
        is("0 0 0 0 0", cut(z));
        z.setSum(false, 0, 3);
        is(0, z.fill());
        is("1 3 3 4 3", cut(z));
        z.setSum(false, 0, 0);
        z.setSum(false, 1, 3);
        is(0, z.fill());
        is("2 2 1 3 2", cut(z));
        is(0, z.undo() - z.count(10));
        is("1 3 3 4 3", cut(undone(undone(z))));
        is(ARGUMENT, thrown(() -> z.cutAt(-1)));
        is(ARGUMENT, thrown(() -> z.cutAt(5)));
    }

    private static void tiers() {
        says("promise 23");
        Seattable x = house(2, 3);
        int[][] votes = {{60, 60, 60}, {40, 40, 40}};
        for (int p = 0; p < 2; p++) {
            for (int l = 0; l < 3; l++) {
                x.setVotes(p, l, votes[p][l]);
            }
        }
        for (int l = 0; l < 3; l++) {
            x.setSum(true, l, 1);
        }
        is(3, x.tiers(0, 0, 4, 2));
        is(0, x.tiers(0, 0, 4, 3));
        is(1, x.tiers(0, 0, 4, 1));
        is(5, x.tiers(0, 0, 4, 0));
        is(5, x.tiers(0, 3, 5, 0));
        is(0, x.tiers(0, 4, 5, 1));
        x.setBounds(false, 0, 0, 1);
        is(-1, x.tiers(3, 0, 4, 0));
        x.setBounds(false, 1, 0, 1);
        is(-1, x.tiers(3, 0, 4, 1));
        // The quota rules know no bounds: 2 and 2 of 4, 3 and 2 of 5.
        is(1, x.tiers(3, 3, 4, 1));
        is(5, x.tiers(3, 3, 4, 0));
        is(-1, house(0, 1).tiers(0, 0, 1, 0));
        is(BOUNDS, thrown(() -> house(0, 1).tiers(0, 0, 1, 2)));
        // A first quotient of 1 / (1/2) is 2; in houses up to 399 all the others of 798 are above it.
        Seattable far = house(2, 2);
        far.setVotes(0, 0, 1);
        far.setVotes(1, 1, 798);
        far.setSum(true, 0, 1);
        is(400, far.tiers(0, 0, 1, 0));
        far.setVotes(1, 1, 800);
        is(-1, far.tiers(0, 0, 1, 0));
        is(ARGUMENT, thrown(() -> x.tiers(5, 0, 1, -1)));
        is(ARGUMENT, thrown(() -> x.tiers(0, -1, 1, 0)));
        is(ARGUMENT, thrown(() -> x.tiers(0, 0, 0, 9)));
        is(ARGUMENT, thrown(() -> x.tiers(0, 0, 401, 0)));
        is(BOUNDS, thrown(() -> x.tiers(0, 0, 1, -1)));
        is(BOUNDS, thrown(() -> x.tiers(0, 0, 1, 4)));
        is(BOUNDS, thrown(() -> x.tiers(0, 0, 1, FAR)));
    }

    private static void candidates() {
        says("promise 24");
        Seattable x = ballots(3, 5, 123, 2, 0);
        x.elect(1, 0, 0);
        is(3, x.setCandidates(6));
        is(0, x.count(3));
        is(0, x.count(9));
        is(STATE, thrown(() -> x.electedAt(0)));
        is(6, x.setCandidates(2));
        is(ARGUMENT, thrown(() -> x.setCandidates(1)));
        is(ARGUMENT, thrown(() -> x.setCandidates(7)));
        is(5, x.undo());
        is(4, x.undo());
        is(2, x.count(3));
        is(1, x.electedAt(0));
        says("promise 25");
        is(2, x.addBallot(1000, 312));
        is(3, x.addBallot(1, 0));
        is(ARGUMENT, thrown(() -> x.addBallot(0, 1)));
        is(ARGUMENT, thrown(() -> x.addBallot(1001, 1)));
        is(ARGUMENT, thrown(() -> x.addBallot(1, -1)));
        is(ARGUMENT, thrown(() -> x.addBallot(1, 4)));
        is(ARGUMENT, thrown(() -> x.addBallot(1, 10)));
        is(ARGUMENT, thrown(() -> x.addBallot(1, 1012)));
        is(ARGUMENT, thrown(() -> x.addBallot(1, 121)));
        is(ARGUMENT, thrown(() -> x.addBallot(1, FAR)));
        is(ARGUMENT, thrown(() -> x.addBallot(LOW, LOW)));
        for (int i = 4; i < 20; i++) {
            is(i, x.addBallot(1, 1));
        }
        is(STATE, thrown(() -> x.addBallot(1, 1)));
        is(ARGUMENT, thrown(() -> x.addBallot(1, 9)));
        is(20, x.count(3));
    }

    private static void counting() {
        says("promise 26");
        Seattable x = ballots(4, 12, 12, 5, 32, 3, 4);
        // The quota is 20 / 3; 16 / 3 of the 12 go on to the candidate 1, who stands before 2 then.
        is(4, x.elect(2, 0, 0));
        is("12/1 0/1 5/1 3/1 0/1", votesIn(x, 0));
        is("20/3 16/3 5/1 3/1 0/1", votesIn(x, 1));
        is("20/3 16/3 5/1 0/1 3/1", votesIn(x, 2));
        is("20/3 31/3 0/1 0/1 3/1", votesIn(x, 3));
        is(1, x.electedAt(0));
        is(2, x.electedAt(1));
        is(-3, x.electedAt(2));
        is(-2, x.electedAt(3));
        is(0, x.errors());
        is(4, x.elect(2, 0, 2));
        is("12/1 0/1 5/1 3/1 0/1", votesIn(x, 1));
        is(-2, x.electedAt(1));
        is(2, x.electedAt(2));
        countingRules();
        says("promise 27");
        is(BOUNDS, thrown(() -> x.electedAt(4)));
        is(BOUNDS, thrown(() -> x.electedAt(-1)));
        is(BOUNDS, thrown(() -> new Seattable().electedAt(2)));
        is(STATE, thrown(() -> new Seattable().electedAt(1)));
        x.addBallot(1, 1);
        is(2, x.electedAt(2));
        says("promise 28");
        is(BOUNDS, thrown(() -> x.votesAt(4, 0)));
        is(BOUNDS, thrown(() -> x.votesAt(-1, 0)));
        is(BOUNDS, thrown(() -> x.votesAt(0, 4)));
        is(BOUNDS, thrown(() -> x.votesAt(0, -2)));
        is(BOUNDS, thrown(() -> new Seattable().votesAt(0, 0)));
        is(1, x.votesAt(0, 0));
        is(0, x.votesAt(0, -1));
    }

    private static void countingRules() {
        // Reached: rule 0 needs more than V / (seats + 1), rule 2 as many as V / seats, rule 1 whole votes.
        Seattable half = ballots(2, 5, 1, 5, 2);
        is(2, half.elect(1, 0, 0));
        is(1, half.electedAt(0));
        is(-1, half.electedAt(1));
        Seattable exact = ballots(3, 5, 1, 3, 2, 2, 3);
        is(3, exact.elect(2, 2, 0));
        is(1, exact.electedAt(0));
        is(2, exact.electedAt(1));
        is("5/1 3/1 2/1 0/1", votesIn(exact, 1));
        is(3, exact.elect(2, 1, 0));
        is("4/1 3/1 2/1 1/1", votesIn(exact, 1));
        is("1 2 -2", exact.electedAt(0) + " " + exact.electedAt(1) + " " + exact.electedAt(2));
        // By moving rule 1 only what came last to the elected one goes on: the 4 from candidate 3.
        Seattable latest = ballots(4, 5, 12, 4, 413, 6, 2, 5, 3);
        is(3, latest.elect(2, 1, 1));
        is("5/1 6/1 5/1 4/1 0/1", votesIn(latest, 0));
        is("9/1 6/1 5/1 0/1 0/1", votesIn(latest, 1));
        is("7/1 6/1 7/1 0/1 0/1", votesIn(latest, 2));
        is(3, latest.elect(2, 1, 0));
        is("7/1 64/9 53/9 0/1 0/1", votesIn(latest, 2));
        // All at the end, by ascending numbers, when no more are left than seats.
        Seattable rest = ballots(4, 1, 0);
        is(3, rest.elect(2, 1, 0));
        is("0/1 0/1 0/1 0/1 1/1", votesIn(rest, 2));
        is(1, rest.electedAt(0));
        is(2, rest.electedAt(1));
        is(-2, rest.electedAt(2));
        is(-1, rest.electedAt(3));
        is(ARGUMENT, thrown(() -> rest.elect(0, 0, 0)));
        is(ARGUMENT, thrown(() -> rest.elect(4, 0, 0)));
        is(ARGUMENT, thrown(() -> rest.elect(6, 0, 0)));
        is(ARGUMENT, thrown(() -> rest.elect(1, 3, 0)));
        is(ARGUMENT, thrown(() -> rest.elect(1, 0, 3)));
        is(ARGUMENT, thrown(() -> rest.elect(1, -1, 0)));
        is(ARGUMENT, thrown(() -> rest.elect(1, 0, -1)));
        is(ARGUMENT, thrown(() -> new Seattable().elect(2, 0, 0)));
        is(STATE, thrown(() -> new Seattable().elect(1, 0, 0)));
        is(3, rest.count(9));
    }

    private static void openList() {
        says("promise 29");
        Seattable x = ballots(4, 2, 4, 3, 31, 3, 2, 2, 0);
        is("1 2 3 0", openList(x, 1, 10));
        is("1 2 3 0", openList(x, 1, 5));
        is("1 2 0 3", openList(x, 3, 10));
        is("0 1 2 3", openList(x, 31, 100));
        is("1 2 3 0", openList(x, 0, 1));
        is(BOUNDS, thrown(() -> x.openAt(4, 1, 0)));
        is(BOUNDS, thrown(() -> x.openAt(-1, 1, 2)));
        is(ARGUMENT, thrown(() -> x.openAt(0, 1, 0)));
        is(ARGUMENT, thrown(() -> x.openAt(0, -1, 5)));
        is(ARGUMENT, thrown(() -> x.openAt(0, 6, 5)));
        is(ARGUMENT, thrown(() -> x.openAt(0, 1, 101)));
        is(1, new Seattable().openAt(1, 1, 2));
    }

    private static Seattable chain(int... people) {
        Seattable x = new Seattable();
        for (int i = 0; i < people.length; i++) {
            x.addBlock(people[i], i % 2 == 0 ? 10 : 0, 6);
            if (i > 0) {
                x.join(i, i - 1);
            }
        }
        return x;
    }

    private static void blocks() {
        says("promise 30");
        Seattable x = new Seattable();
        for (int i = 0; i < 9; i++) {
            is(i, x.addBlock(1000, 0, 1000));
        }
        is(STATE, thrown(() -> x.addBlock(0, 0, 0)));
        is(ARGUMENT, thrown(() -> x.addBlock(1001, 0, 0)));
        is(ARGUMENT, thrown(() -> x.addBlock(0, -1, 0)));
        is(ARGUMENT, thrown(() -> x.addBlock(0, 0, 1001)));
        is(9, x.count(4));
        says("promise 31");
        is(true, x.join(0, 8));
        is(false, x.join(8, 0));
        is(11, x.count(10));
        is(BOUNDS, thrown(() -> x.join(9, 9)));
        is(BOUNDS, thrown(() -> x.join(0, -1)));
        is(BOUNDS, thrown(() -> x.join(FAR, 0)));
        is(ARGUMENT, thrown(() -> x.join(3, 3)));
        x.undo();
        is(false, x.join(0, 8));
        x.undo();
        x.undo();
        is(true, x.join(8, 0));
    }

    private static void districts() {
        says("promise 32");
        Seattable x = chain(4, 3, 2, 1);
        is(1, x.maps(1, 0));
        is(3, x.maps(2, 0));
        is(3, x.maps(3, 0));
        is(2, x.maps(2, 1));
        is(1, x.maps(2, 2));
        is(1, x.maps(2, 3));
        x.join(0, 3);
        is(6, x.maps(2, 0));
        is(0, x.maps(2, 1));
        is(2, x.maps(2, 2));
        is(0, x.maps(1, 1));
        is(0, x.maps(1, 2));
        is(0, new Seattable().maps(1, 0));
        is(-1, new Seattable().maps(1, 1));
        is(-1, new Seattable().maps(1, 3));
        Seattable apart = new Seattable();
        apart.addBlock(1, 1, 1);
        apart.addBlock(1, 1, 1);
        is(0, apart.maps(1, 0));
        is(1, apart.maps(2, 0));
        is(0, apart.maps(3, 0));
        is(-1, apart.maps(3, 2));
        Seattable ring = chain(1, 1, 1, 1);
        ring.join(3, 0);
        is(2, ring.maps(2, 3));
        is(ARGUMENT, thrown(() -> ring.maps(0, 0)));
        is(ARGUMENT, thrown(() -> ring.maps(4, 0)));
        is(ARGUMENT, thrown(() -> ring.maps(2, -1)));
        is(ARGUMENT, thrown(() -> ring.maps(2, 4)));
        says("promise 33");
        is("0 0 1 1", districts(ring, 2));
        is("0 1 1 0", districts(x, 2));
        is("0 0 0 0", districts(x, 1));
        is(BOUNDS, thrown(() -> x.districtAt(0, 4)));
        is(BOUNDS, thrown(() -> x.districtAt(2, -1)));
        is(ARGUMENT, thrown(() -> x.districtAt(0, 0)));
        is(ARGUMENT, thrown(() -> x.districtAt(4, 0)));
        is(ELEMENT, thrown(() -> apart.districtAt(1, 0)));
        says("promise 34");
        // Red wins the blocks 0 and 2 by 4, and loses 1 and 3 by 6.
        is(1, x.tilt(2, 9000, true));
        is(0, x.tilt(2, 9000, false));
        is(0, x.tilt(2, 0, true));
        is(1, x.tilt(2, 2, true));
        is(-1, apart.tilt(1, 9000, true));
        is(-1, chain(5, 1).tilt(2, 3, false));
        is(1, chain(5, 1).tilt(2, 4, false));
        is(ARGUMENT, thrown(() -> x.tilt(0, 0, true)));
        is(ARGUMENT, thrown(() -> x.tilt(4, 0, true)));
        is(ARGUMENT, thrown(() -> x.tilt(1, -1, true)));
        is(ARGUMENT, thrown(() -> x.tilt(1, 9001, true)));
    }

    private static void panels() {
        says("promise 35");
        Seattable x = new Seattable();
        for (int i = 0; i < 4; i++) {
            is(i, x.addPerson(i == 0 ? 0 : 1, 2, 0));
        }
        is(ARGUMENT, thrown(() -> x.addPerson(3, 0, 0)));
        is(ARGUMENT, thrown(() -> x.addPerson(0, -1, 0)));
        is(ARGUMENT, thrown(() -> x.addPerson(0, 0, 3)));
        says("promise 36");
        is(-1, x.want(0, 0, 1));
        is(1, x.want(0, 0, 1));
        is(ARGUMENT, thrown(() -> x.want(3, 0, 1)));
        is(ARGUMENT, thrown(() -> x.want(0, 3, 1)));
        is(ARGUMENT, thrown(() -> x.want(0, 0, 10)));
        is(ARGUMENT, thrown(() -> x.want(0, 0, -2)));
        is(ARGUMENT, thrown(() -> x.want(-1, 0, 0)));
        says("promise 37");
        is(3, x.panels(2, -1));
        is(3, x.panels(2, 0));
        is(1, x.panels(2, 3));
        is(0, x.panels(5, -1));
        is(ARGUMENT, thrown(() -> x.panels(0, 9)));
        is(ARGUMENT, thrown(() -> x.panels(10, -1)));
        is(BOUNDS, thrown(() -> x.panels(2, 4)));
        is(BOUNDS, thrown(() -> x.panels(2, -2)));
        says("promise 38");
        is("1 1/3", x.chance(2) + " " + board(x));
        is("1 2/3", x.chance(3) + " " + board(x));
        is("0 0/1", x.chance(5) + " " + board(x));
        is(1, x.want(0, 0, -1));
        is("1 1/2", x.chance(2) + " " + board(x));
        x.want(0, 1, 2);
        is("1 2/3", x.chance(2) + " " + board(x));
        is("0 0/1", x.chance(9) + " " + board(x));
        is(ARGUMENT, thrown(() -> x.chance(0)));
        is(ARGUMENT, thrown(() -> x.chance(10)));
        says("promise 35");
        for (int i = 4; i < 9; i++) {
            is(i, x.addPerson(0, 0, 0));
        }
        is(STATE, thrown(() -> x.addPerson(0, 0, 0)));
        is(ARGUMENT, thrown(() -> x.addPerson(0, 0, 9)));
        says("promise 38");
        x.want(0, 1, -1);
        is("1 4/9", x.chance(4) + " " + board(x));
        is(126, x.panels(4, -1));
    }

    private static void weights() {
        says("promise 39");
        Seattable x = new Seattable();
        for (int i = 0; i < 6; i++) {
            is(i, x.addPlayer(100));
        }
        is(STATE, thrown(() -> x.addPlayer(0)));
        is(ARGUMENT, thrown(() -> x.addPlayer(101)));
        is(ARGUMENT, thrown(() -> x.addPlayer(-1)));
        says("promise 40");
        is(1, x.setMajority(600));
        is(600, x.setMajority(1));
        is(ARGUMENT, thrown(() -> x.setMajority(0)));
        is(ARGUMENT, thrown(() -> x.setMajority(601)));
        is(6, x.count(11));
        says("promise 41");
        Seattable y = players(51, 50, 30, 20);
        is("1 2/3", y.power(0, false) + " " + board(y));
        is("1 1/6", y.power(1, false) + " " + board(y));
        is("1 3/5", y.power(0, true) + " " + board(y));
        is("1 1/5", y.power(2, true) + " " + board(y));
        Seattable dummy = players(6, 3, 3, 2);
        is("0 0/1", dummy.power(2, false) + " " + board(dummy));
        is("1 1/2", dummy.power(1, true) + " " + board(dummy));
        Seattable lost = players(9, 3, 3, 2);
        is(0, lost.power(0, false));
        is(0, lost.power(0, true));
        is(BOUNDS, thrown(() -> y.power(3, true)));
        is(BOUNDS, thrown(() -> y.power(-1, true)));
        says("promise 42");
        is("3 5", y.leastAt(0) + " " + y.leastAt(1));
        is(ELEMENT, thrown(() -> y.leastAt(2)));
        is(ELEMENT, thrown(() -> y.leastAt(-1)));
        is(ELEMENT, thrown(() -> lost.leastAt(0)));
        is(3, dummy.leastAt(0));
        says("promise 43");
        is(4, y.otherwise());
        is(2, dummy.otherwise());
        is(0, lost.otherwise());
        is(0, new Seattable().otherwise());
        is(6, x.otherwise());
        is(5, players(4, 3, 2, 1, 1).otherwise());
        is(7, players(5, 4, 2, 1, 1, 1).otherwise());
        is(9, players(5, 3, 2, 2, 1, 1).otherwise());
        is(14, players(51, 35, 20, 15, 15, 10, 5).otherwise());
    }

    private static void agendas() {
        says("promise 44");
        // A ring: 0 beats 1, 1 beats 2, 2 beats 0.
        Seattable x = ballots(3, 4, 123, 3, 231, 2, 312);
        is(3, x.margin(0, 1));
        is(5, x.margin(1, 2));
        is(-1, x.margin(0, 2));
        is(0, x.margin(1, 1));
        x.addBallot(5, 3);
        x.addBallot(9, 0);
        is(0, x.margin(1, 2));
        is(3, x.margin(0, 1));
        x.undo();
        x.undo();
        is(BOUNDS, thrown(() -> x.margin(3, 0)));
        is(BOUNDS, thrown(() -> x.margin(0, -1)));
        says("promise 45");
        is(2, x.agenda(123));
        is(0, x.agenda(231));
        is(1, x.agenda(132));
        is(0, new Seattable().agenda(12));
        is(1, new Seattable().agenda(21));
        is(ARGUMENT, thrown(() -> x.agenda(12)));
        is(ARGUMENT, thrown(() -> x.agenda(1234)));
        is(ARGUMENT, thrown(() -> x.agenda(122)));
        is(ARGUMENT, thrown(() -> x.agenda(0)));
        is(ARGUMENT, thrown(() -> x.agenda(-123)));
        is(ARGUMENT, thrown(() -> x.agenda(FAR)));
        is(ARGUMENT, thrown(() -> x.agenda(1203)));
        says("promise 46");
        is(231, x.agendaFor(0));
        is(132, x.agendaFor(1));
        is(123, x.agendaFor(2));
        is(0, ballots(3, 1, 123).agendaFor(2));
        is(BOUNDS, thrown(() -> x.agendaFor(3)));
        is(BOUNDS, thrown(() -> x.agendaFor(-1)));
        says("promise 47");
        is(2, x.agendasFor(0));
        is(6, ballots(3, 1, 123).agendasFor(0));
        is(0, ballots(3, 1, 123).agendasFor(1));
        is(720, ballots(6, 1, 654321).agendasFor(5));
        is(120, ballots(6).agendasFor(3));
        is(BOUNDS, thrown(() -> x.agendasFor(3)));
        is(BOUNDS, thrown(() -> x.agendasFor(-1)));
    }

    private static void boardAndReports() {
        says("promise 48");
        Seattable x = votes(1000000, 999999, 999983);
        is(0, x.digits(false, 0));
        is(1, x.digits(true, 0));
        is(ELEMENT, thrown(() -> x.digits(false, 1)));
        is(ELEMENT, thrown(() -> x.digits(false, -1)));
        is(ELEMENT, thrown(() -> x.digits(true, FAR)));
        x.quota(0, 0, 399, 0);
        is("66500000/499997", board(x));
        Seattable deep = ballots(5, 997, 12345, 991, 21345, 983, 12543, 977, 54321, 101, 13452);
        deep.elect(4, 0, 0);
        deep.votesAt(3, 3);
        String told = board(deep);
        is("130242415883428/238235325175", told);
        is(415883428, deep.digits(false, 0));
        is(130242, deep.digits(false, 1));
        String bottom = told.substring(told.indexOf('/') + 1);
        int groups = (bottom.length() + 8) / 9;
        for (int g = 0; g < groups; g++) {
            int end = bottom.length() - 9 * g;
            is(Integer.parseInt(bottom.substring(Math.max(0, end - 9), end)), deep.digits(true, g));
        }
        is(ELEMENT, thrown(() -> deep.digits(true, groups)));
        says("promise 49");
        Seattable y = votes(12, 12);
        is(0, y.write(0));
        is(0, y.write(1));
        is(4, y.write(2));
        is("0/1\n", read(y));
        y.deal(0, 0, 0, 21);
        is(12, y.write(0));
        is("11 10\n10 11\n", read(y));
        y.setSum(false, 0, 12);
        y.setSum(true, 0, 12);
        y.fill();
        is(7, y.write(1));
        is("12\n0\n-\n", read(y));
        is(ARGUMENT, thrown(() -> y.write(-1)));
        is(ARGUMENT, thrown(() -> y.write(3)));
        says("promise 50");
        is((int) '1', y.signAt(0));
        is(10, y.signAt(6));
        is(ELEMENT, thrown(() -> y.signAt(7)));
        is(ELEMENT, thrown(() -> y.signAt(-1)));
        y.undo();
        is((int) '-', y.signAt(5));
        is(0, y.write(1));
        is(ELEMENT, thrown(() -> y.signAt(0)));
    }

    private static void undoing() {
        says("promise 51");
        Seattable x = house(1, 1);
        for (int i = 1; i <= 20; i++) {
            x.setVotes(0, 0, i);
        }
        is(12, x.count(10));
        for (int i = 11; i >= 0; i--) {
            is(i, x.undo());
        }
        is(STATE, thrown(x::undo));
        is(8, x.setVotes(0, 0, 9));
        is(1, x.count(10));
        x.quota(0, 0, 7, 0);
        type(x, "land;");
        x.deal(0, 0, 0, 3);
        x.write(0);
        x.undo();
        is(0, x.count(7));
        is("3\n", read(x));
        is("7/1", board(x));
        is(1, x.load());
        is(2, x.count(1));
        x.undo();
        is(1, x.count(1));
        is(0, x.clearText());
        type(x, "zz");
        x.undo();
        is(2, x.clearText());
        Seattable all = ballots(3, 2, 12);
        all.elect(1, 0, 0);
        all.addPlayer(3);
        all.addPerson(0, 0, 0);
        all.want(1, 1, 4);
        all.addBlock(1, 1, 1);
        all.setCandidates(5);
        for (int i = 0; i < 5; i++) {
            all.undo();
        }
        is(0, all.count(4) + all.count(5) + all.count(6));
        is(3, all.count(2));
        is(1, all.count(3));
        is(1, all.count(9));
        is(-1, all.want(1, 1, 0));
    }

    private static void countsAndErrors() {
        says("promise 52");
        Seattable x = votes(5, 5);
        x.setSum(false, 0, 1);
        x.setSum(true, 0, 1);
        x.deal(0, 0, 0, 1);
        x.fill();
        x.setCandidates(4);
        x.addBallot(1, 1);
        x.elect(1, 0, 0);
        x.addBlock(0, 0, 0);
        x.addPerson(0, 0, 0);
        x.addPlayer(1);
        int[] due = {2, 1, 4, 1, 1, 1, 1, 2, 1, 1, 12, 1};
        for (int what = 0; what < due.length; what++) {
            is(due[what], x.count(what));
        }
        is(ARGUMENT, thrown(() -> x.count(-1)));
        is(ARGUMENT, thrown(() -> x.count(12)));
        says("promise 53");
        is(0, x.errors());
        is(0, new Seattable().errors());
        x.quota(0, 0, 3, 0);
        is(0, x.errors());
        is("3/2", board(x));
        is(12, x.count(10));
    }

    public static void main(String[] args) {
        newObject();
        partiesAndLands();
        votesAndPeople();
        boundsAndSums();
        shares();
        typing();
        textErrors();
        loading();
        dealing();
        quotas();
        laws();
        filling();
        factors();
        tiers();
        candidates();
        counting();
        openList();
        blocks();
        districts();
        panels();
        weights();
        agendas();
        boardAndReports();
        undoing();
        countsAndErrors();
        finish("PromisesTest");
    }
}
