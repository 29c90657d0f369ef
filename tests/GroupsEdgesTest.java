/** The edges of the sections 8 to 10 and of the promises 30 to 43, each sentence by itself. */
public final class GroupsEdgesTest extends Checks {

    /** A chain of blocks with these people, in which nobody has votes. */
    private static Seattable chain(int... people) {
        Seattable x = new Seattable();
        for (int i = 0; i < people.length; i++) {
            x.addBlock(people[i], 0, 0);
            if (i > 0) {
                x.join(i - 1, i);
            }
        }
        return x;
    }

    private static String maps(Seattable x, int districts) {
        return x.maps(districts, 0) + " " + x.maps(districts, 1) + " " + x.maps(districts, 2) + " "
                + x.maps(districts, 3);
    }

    private static void blocks() {
        Seattable x = new Seattable();
        says("30: people, red and blue 0 to 1000; returns its number");
        is(0, x.addBlock(0, 0, 0));
        is(1, x.addBlock(1000, 1000, 1000));
        int[][] bad = {{-1, 0, 0}, {1001, 0, 0}, {0, -1, 0}, {0, 1001, 0}, {0, 0, -1}, {0, 0, 1001},
            {LOW, 0, 0}, {0, FAR, 0}, {0, 0, LOW}};
        for (int[] block : bad) {
            isRefused(ARGUMENT, () -> x.addBlock(block[0], block[1], block[2]));
        }
        is(2, x.count(4));
        says("30: IllegalStateException if there are 9");
        for (int i = 2; i < 9; i++) {
            is(i, x.addBlock(i, 0, 0));
        }
        isRefused(STATE, () -> x.addBlock(0, 0, 0));
        is(9, x.count(4));
        says("30: of several exceptions the first one listed");
        isRefused(ARGUMENT, () -> x.addBlock(0, 0, 1001));
        says("30: an act, which can be taken back, and done again");
        is(8, x.undo());
        is(8, x.addBlock(0, 0, 0));
        is(9, x.count(10));
    }

    private static void neighbours() {
        Seattable x = chain(1, 1);
        x.addBlock(1, 0, 0);
        says("31: returns whether they were not, either way round");
        is(true, x.join(2, 0));
        is(false, x.join(2, 0));
        is(false, x.join(0, 2));
        is(false, x.join(0, 1));
        is(false, x.join(1, 0));
        says("31: an act, also if they were neighbours");
        is(9, x.count(10));
        is(8, x.undo());
        is(false, x.join(0, 2));
        says("31: taken back, they are no neighbours on either side");
        for (int i = 0; i < 5; i++) {
            x.undo();
        }
        is(4, x.count(10));
        is(true, x.join(0, 2));
        x.undo();
        is(true, x.join(2, 0));
        says("31: IndexOutOfBoundsException see section 1");
        int[] nowhere = {3, -1, FAR, LOW};
        for (int block : nowhere) {
            isRefused(BOUNDS, () -> x.join(block, 0));
            isRefused(BOUNDS, () -> x.join(0, block));
            isRefused(BOUNDS, () -> x.join(block, block));
        }
        says("31: IllegalArgumentException if both are the same");
        isRefused(ARGUMENT, () -> x.join(0, 0));
        isRefused(ARGUMENT, () -> x.join(2, 2));
        says("31: blocks are neighbours only if they were joined");
        Seattable apart = new Seattable();
        apart.addBlock(1, 0, 0);
        apart.addBlock(1, 0, 0);
        is(0, apart.maps(1, 0));
        apart.join(1, 0);
        is(1, apart.maps(1, 0));
    }

    private static void allMaps() {
        says("section 8: no district is empty");
        is("1 0 0 1", maps(chain(5), 1));
        is("0 -1 -1 -1", maps(chain(5), 2));
        is("0 -1 -1 -1", maps(chain(5), 3));
        is("0 -1 -1 -1", maps(chain(5, 5), 3));
        is("1 0 3 1", maps(ring(1, 1, 1), 3));
        says("32: NONE without a map, 0 maps without blocks");
        for (int districts = 1; districts <= 3; districts++) {
            is("0 -1 -1 -1", maps(new Seattable(), districts));
        }
        says("section 8: the blocks of each district hang together by neighbours");
        Seattable apart = chain(1, 1);
        apart.addBlock(1, 0, 0);
        is("0 -1 -1 -1", maps(apart, 1));
        is("1 1 0 1", maps(apart, 2));
        is("0 0 1", districts(apart, 2));
        is("1 0 1 1", maps(apart, 3));
        is(2, chain(1, 1, 1).maps(2, 0));
        says("section 8: maps that differ by the numbers of districts alone are the same");
        is(8, chain(1, 1, 1, 1, 1, 1, 1, 1, 1).maps(2, 0));
        is(28, chain(1, 1, 1, 1, 1, 1, 1, 1, 1).maps(3, 0));
        Seattable full = new Seattable();
        for (int i = 0; i < 9; i++) {
            full.addBlock(1000, 1000, 0);
            for (int k = 0; k < i; k++) {
                full.join(i, k);
            }
        }
        is(255, full.maps(2, 0));
        is(3025, full.maps(3, 0));
        is("1 0 0 1", maps(full, 1));
        // Of 3 and 3 and 3 there are 280; they part 27 of 36 pairs.
        is("3025 0 27 280", maps(full, 3));
        is("0 0 0 1 1 1 2 2 2", districts(full, 3));
        says("section 8: many ways of hanging together (a ring, two of its neighbours apart)");
        is("6 0 2 2", maps(ring(1, 1, 1, 1), 2));
        is("0 0 1 1", districts(ring(1, 1, 1, 1), 2));
    }

    private static Seattable ring(int... people) {
        Seattable x = chain(people);
        x.join(0, people.length - 1);
        return x;
    }

    private static void toldMaps() {
        says("section 8: the spread is the people of the greatest district less those of the least one");
        Seattable x = chain(4, 3, 2, 1);
        is("3 2 1 1", maps(x, 2));
        is("0 1 1 1", districts(x, 2));
        // 4, 3 and 3 of the three maps.
        is("3 1 2 1", maps(x, 3));
        is("0 1 2 2", districts(x, 3));
        is("1 0 0 1", maps(x, 1));
        is("0 0 0 0", districts(x, 1));
        is("1 1000 1 1", maps(chain(1000, 0), 2));
        says("section 8: the told map is the one with the least spread, whatever its rim");
        is("0 1 1 0", districts(ring(4, 3, 2, 1), 2));
        says("section 8: of these with the least rim (the first one by districts has a rim of 3)");
        Seattable rim = new Seattable();
        for (int i = 0; i < 5; i++) {
            rim.addBlock(i == 4 ? 0 : 1, 0, 0);
        }
        int[][] pairs = {{0, 1}, {1, 3}, {3, 2}, {2, 0}, {4, 0}, {4, 2}};
        for (int[] pair : pairs) {
            rim.join(pair[0], pair[1]);
        }
        is("0 1 0 1 0", districts(rim, 2));
        is(0, rim.maps(2, 1));
        is(2, rim.maps(2, 2));
        is(1, rim.maps(2, 3));
        says("section 8: of these the first one, by the district of block 0, then of block 1, and so on");
        Seattable square = ring(1, 1, 1, 1);
        is("0 0 1 1", districts(square, 2));
        square.join(0, 2);
        is("0 0 1 1", districts(square, 2));
        is(2, square.maps(2, 3));
        is("0 0 1 2", districts(chain(1, 1, 1, 1), 3));
        says("section 8: districts are numbered by their least blocks");
        is("0 1 2 0", districts(ring(1, 2, 2, 1), 3));
        says("32: how many maps have this spread and rim");
        is(3, ring(1, 1, 1).maps(2, 3));
        is(3, chain(1, 1, 1, 1).maps(3, 3));
        is(1, chain(1, 1, 1, 1).maps(2, 3));
        says("32: districts 1 to 3, what 0 to 3");
        isRefused(ARGUMENT, () -> x.maps(0, 0));
        isRefused(ARGUMENT, () -> x.maps(4, 0));
        isRefused(ARGUMENT, () -> x.maps(LOW, 0));
        isRefused(ARGUMENT, () -> x.maps(1, -1));
        isRefused(ARGUMENT, () -> x.maps(1, 4));
        isRefused(ARGUMENT, () -> x.maps(1, FAR));
        isRefused(ARGUMENT, () -> new Seattable().maps(4, 1));
        says("33: IndexOutOfBoundsException see section 1");
        int[] nowhere = {4, -1, FAR, LOW};
        for (int block : nowhere) {
            isRefused(BOUNDS, () -> x.districtAt(2, block));
            isRefused(BOUNDS, () -> x.districtAt(4, block));
        }
        isRefused(BOUNDS, () -> new Seattable().districtAt(1, 0));
        says("33: IllegalArgumentException if districts is out of range");
        isRefused(ARGUMENT, () -> x.districtAt(0, 0));
        isRefused(ARGUMENT, () -> x.districtAt(4, 0));
        says("33: NoSuchElementException if there is no map");
        isRefused(ELEMENT, () -> chain(1, 1).districtAt(3, 0));
        isRefused(ELEMENT, () -> chain(1).districtAt(2, 0));
        says("33: of several exceptions the first one listed");
        isRefused(ARGUMENT, () -> chain(1).districtAt(4, 0));
        isRefused(BOUNDS, () -> chain(1).districtAt(2, 1));
    }

    private static void tilts() {
        Seattable x = new Seattable();
        x.addBlock(1, 5, 4);
        x.addBlock(2, 0, 5);
        x.addBlock(4, 5, 4);
        x.join(0, 1);
        x.join(1, 2);
        says("34: the fewest or the most districts that red wins");
        is(0, x.tilt(1, 9000, true));
        is(1, x.tilt(2, 9000, true));
        is(1, x.tilt(2, 9000, false));
        is(2, x.tilt(3, 9000, true));
        is(2, x.tilt(3, 9000, false));
        says("section 8: red wins a district in which it has more votes than blue, not with as many");
        Seattable even = new Seattable();
        even.addBlock(1, 5, 5);
        even.addBlock(1, 6, 5);
        even.join(0, 1);
        is(1, even.tilt(2, 0, true));
        is(1, even.tilt(1, 0, false));
        even.addBlock(1, 0, 1);
        even.join(1, 2);
        is(0, even.tilt(1, 0, true));
        says("34: of all maps with a spread up to a told one (1 and 6, 3 and 4)");
        Seattable y = new Seattable();
        y.addBlock(1, 0, 9);
        y.addBlock(2, 4, 3);
        y.addBlock(4, 5, 3);
        y.join(0, 1);
        y.join(1, 2);
        is(1, y.tilt(2, 1, true));
        is(1, y.tilt(2, 5, false));
        // With 9 votes more for red beside block 0: 1 with 0 and 7 people, 1 with 1 and 6, 2 with 3 and 4.
        y.addBlock(0, 9, 0);
        y.join(0, 3);
        is(2, y.tilt(2, 1, true));
        is(2, y.tilt(2, 1, false));
        is(2, y.tilt(2, 4, false));
        is(1, y.tilt(2, 5, false));
        is(2, y.tilt(2, 5, true));
        says("34: NONE if there is no such map");
        is(NONE, y.tilt(2, 0, true));
        is(NONE, y.tilt(2, 0, false));
        is(NONE, chain(5, 1).tilt(2, 3, true));
        is(0, chain(5, 1).tilt(2, 4, true));
        is(NONE, chain(5).tilt(2, 9000, false));
        is(NONE, new Seattable().tilt(1, 9000, true));
        says("34: districts 1 to 3, spread 0 to 9000");
        isRefused(ARGUMENT, () -> x.tilt(0, 0, true));
        isRefused(ARGUMENT, () -> x.tilt(4, 0, true));
        isRefused(ARGUMENT, () -> x.tilt(1, -1, true));
        isRefused(ARGUMENT, () -> x.tilt(1, 9001, true));
        isRefused(ARGUMENT, () -> x.tilt(1, LOW, false));
        isRefused(ARGUMENT, () -> x.tilt(FAR, FAR, false));
        is(0, x.tilt(1, 0, true));
        says("32 to 34: questions: no act, no board");
        is(5, x.count(10));
        is("0/1", board(x));
    }

    private static Seattable persons(int... ages) {
        Seattable x = new Seattable();
        for (int age : ages) {
            x.addPerson(age, 1, 2);
        }
        return x;
    }

    private static void persons() {
        Seattable x = new Seattable();
        says("35: each mark 0 to 2; returns its number");
        is(0, x.addPerson(0, 1, 2));
        is(1, x.addPerson(2, 0, 1));
        is(2, x.addPerson(1, 2, 0));
        int[][] bad = {{-1, 0, 0}, {3, 0, 0}, {0, -1, 0}, {0, 3, 0}, {0, 0, -1}, {0, 0, 3}, {FAR, 0, 0}, {0, LOW, 0}};
        for (int[] marks : bad) {
            isRefused(ARGUMENT, () -> x.addPerson(marks[0], marks[1], marks[2]));
        }
        is(3, x.count(5));
        says("35 and 36: 0 for age, 1 for kind, 2 for land");
        int[][] with = {{0, 2, 1}, {1, 0, 2}, {2, 1, 0}};
        for (int mark = 0; mark < 3; mark++) {
            for (int value = 0; value < 3; value++) {
                is(NONE, x.want(mark, value, 1));
                for (int person = 0; person < 3; person++) {
                    is(with[mark][value] == person ? 1 : 0, x.panels(1, person));
                }
                is(1, x.want(mark, value, NONE));
            }
        }
        says("35: IllegalStateException if there are 9");
        for (int i = 3; i < 9; i++) {
            is(i, x.addPerson(0, 0, 0));
        }
        isRefused(STATE, () -> x.addPerson(0, 0, 0));
        is(9, x.count(5));
        says("35: of several exceptions the first one listed");
        isRefused(ARGUMENT, () -> x.addPerson(0, 3, 0));
        says("35: an act, which can be taken back, and done again");
        x.undo();
        is(8, x.addPerson(0, 0, 0));
    }

    private static void wants() {
        Seattable x = persons(0, 0, 1);
        says("36: mark 0 to 2, value 0 to 2");
        isRefused(ARGUMENT, () -> x.want(-1, 0, 0));
        isRefused(ARGUMENT, () -> x.want(3, 0, 0));
        isRefused(ARGUMENT, () -> x.want(0, -1, 0));
        isRefused(ARGUMENT, () -> x.want(0, 3, 0));
        says("36: many 0 to 9, or NONE");
        isRefused(ARGUMENT, () -> x.want(0, 0, -2));
        isRefused(ARGUMENT, () -> x.want(0, 0, 10));
        isRefused(ARGUMENT, () -> x.want(0, 0, LOW));
        isRefused(ARGUMENT, () -> x.want(0, 0, FAR));
        says("36: any number (as at first); returns what it was before");
        for (int k = 0; k < 9; k++) {
            is(NONE, x.want(k / 3, k % 3, 9));
            is(9, x.want(k / 3, k % 3, 0));
            is(0, x.want(k / 3, k % 3, NONE));
        }
        says("36: an act");
        x.want(2, 2, 4);
        x.undo();
        is(NONE, x.want(2, 2, NONE));
        is(3, x.panels(1, NONE));
        says("section 9: just so many of each wanted value: 0 is none of them");
        x.want(0, 0, 0);
        is("1 0 0", x.panels(1, NONE) + " " + x.panels(2, NONE) + " " + x.panels(3, NONE));
        says("section 9: not fewer and not more");
        x.want(0, 0, 1);
        is("2 2 0", x.panels(1, NONE) + " " + x.panels(2, NONE) + " " + x.panels(3, NONE));
        x.want(0, 0, 2);
        is("0 1 1", x.panels(1, NONE) + " " + x.panels(2, NONE) + " " + x.panels(3, NONE));
        x.want(0, 0, 3);
        is("0 0 0", x.panels(1, NONE) + " " + x.panels(2, NONE) + " " + x.panels(3, NONE));
        says("section 9: all that is wanted at once");
        x.want(0, 0, 1);
        x.want(0, 1, 1);
        is("0 2 0", x.panels(1, NONE) + " " + x.panels(2, NONE) + " " + x.panels(3, NONE));
        x.want(1, 1, 1);
        is("0 0 0", x.panels(1, NONE) + " " + x.panels(2, NONE) + " " + x.panels(3, NONE));
        says("section 9: a value that nobody has can be wanted 0 times");
        x.want(1, 1, NONE);
        x.want(0, 2, 0);
        is(2, x.panels(2, NONE));
        x.want(0, 2, 1);
        is(0, x.panels(2, NONE));
    }

    private static void panels() {
        Seattable x = persons(0, 0, 1, 2);
        says("37: how many panels there are; with a person who must be in them, or NONE");
        is("4 6 4 1 0", x.panels(1, NONE) + " " + x.panels(2, NONE) + " " + x.panels(3, NONE) + " "
                + x.panels(4, NONE) + " " + x.panels(5, NONE));
        is("1 3 3 1 0", x.panels(1, 3) + " " + x.panels(2, 3) + " " + x.panels(3, 3) + " " + x.panels(4, 3) + " "
                + x.panels(9, 3));
        x.want(0, 0, 0);
        is("0 1 1", x.panels(1, 0) + " " + x.panels(1, 2) + " " + x.panels(2, 3));
        says("37: size 1 to 9");
        isRefused(ARGUMENT, () -> x.panels(0, NONE));
        isRefused(ARGUMENT, () -> x.panels(10, NONE));
        isRefused(ARGUMENT, () -> x.panels(LOW, NONE));
        is(0, x.panels(9, NONE));
        is(0, new Seattable().panels(1, NONE));
        says("37: IndexOutOfBoundsException if there is no such person, and person is not NONE");
        isRefused(BOUNDS, () -> x.panels(1, 4));
        isRefused(BOUNDS, () -> x.panels(1, -2));
        isRefused(BOUNDS, () -> x.panels(1, FAR));
        isRefused(BOUNDS, () -> x.panels(1, LOW));
        isRefused(BOUNDS, () -> new Seattable().panels(1, 0));
        says("37: of several exceptions the first one listed");
        isRefused(ARGUMENT, () -> x.panels(0, 4));
        isRefused(ARGUMENT, () -> x.panels(10, -2));
        says("37: nine persons");
        Seattable nine = persons(0, 0, 0, 1, 1, 1, 2, 2, 2);
        is("9 126 126 1", nine.panels(1, NONE) + " " + nine.panels(4, NONE) + " " + nine.panels(5, NONE) + " "
                + nine.panels(9, NONE));
        is(56, nine.panels(4, 8));
        for (int value = 0; value < 3; value++) {
            nine.want(0, value, 1);
        }
        is(27, nine.panels(3, NONE));
        is(9, nine.panels(3, 8));
    }

    /** Persons by their three marks; and wants, as 01:2 for two members with the value 1 of the mark 0. */
    private static Seattable marked(String persons, String wants) {
        Seattable x = new Seattable();
        for (String marks : persons.split(" ")) {
            x.addPerson(marks.charAt(0) - '0', marks.charAt(1) - '0', marks.charAt(2) - '0');
        }
        for (String want : wants.split(" ")) {
            x.want(want.charAt(0) - '0', want.charAt(1) - '0', want.charAt(3) - '0');
        }
        return x;
    }

    private static void chances() {
        says("section 9: without a panel it is 0");
        Seattable x = persons(0, 1, 1, 1);
        is("0 0/1", chance(x, 5));
        is("0 0/1", chance(new Seattable(), 1));
        x.want(0, 0, 2);
        is("0 0/1", chance(x, 2));
        says("section 9: the greatest number c: all panels alike");
        x.want(0, 0, NONE);
        is("1 1/4", chance(x, 1));
        is("1 1/2", chance(x, 2));
        is("1 3/4", chance(x, 3));
        is("1 1/1", chance(x, 4));
        says("section 9: with a probability of c at least (the first person is in all panels)");
        x.want(0, 0, 1);
        is("1 1/3", chance(x, 2));
        is("1 2/3", chance(x, 3));
        is("1 1/1", chance(x, 1));
        says("section 9: each person who is in some panel (the first one is in none)");
        x.want(0, 0, 0);
        is("1 1/3", chance(x, 1));
        is("1 2/3", chance(x, 2));
        is("1 1/1", chance(x, 3));
        is("0 0/1", chance(x, 4));
        says("section 9: each panel with a probability (0 1 2, 0 3 4 and 1 2 3: 4 needs a half of the second one)");
        Seattable uneven = marked("101 202 010 111 220", "02:1 20:1");
        is("3 1 1/2", uneven.panels(3, NONE) + " " + chance(uneven, 3));
        is("1 2", uneven.panels(3, 4) + " " + uneven.panels(3, 0));
        says("section 9: the greatest number c, wanted by several marks at once");
        Seattable one = marked("212 220 202 120 122 201 000 202 202", "00:1 01:2 02:2 12:2 20:2");
        is("10 1 2/5", one.panels(5, NONE) + " " + chance(one, 5));
        Seattable two = marked("222 220 001 101 222 001 220 121 222", "00:1 01:2 02:2 10:2");
        is("20 1 2/5", two.panels(5, NONE) + " " + chance(two, 5));
        Seattable three = marked("021 121 220 100 010 022 120 111 020", "00:1 01:1 02:1 11:1");
        is("6 1 1/6", three.panels(3, NONE) + " " + chance(three, 3));
        Seattable four = marked("120 002 112 020 112 201 122 212 200", "00:1");
        is("42 1 2/7", four.panels(3, NONE) + " " + chance(four, 3));
        Seattable five = marked("120 200 200 122 011 200 012 012", "00:3 21:1");
        is("10 1 3/5", five.panels(6, NONE) + " " + chance(five, 6));
        says("38: size 1 to 9");
        isRefused(ARGUMENT, () -> x.chance(0));
        isRefused(ARGUMENT, () -> x.chance(10));
        isRefused(ARGUMENT, () -> x.chance(LOW));
        is("0/1", board(x));
        says("38: nine persons");
        Seattable nine = persons(0, 0, 0, 0, 1, 1, 1, 2, 2);
        is("1 4/9", chance(nine, 4));
        is("1 5/9", chance(nine, 5));
        is("1 1/1", chance(nine, 9));
        nine.want(0, 0, 1);
        nine.want(0, 1, 1);
        nine.want(0, 2, 2);
        is("1 1/4", chance(nine, 4));
        says("38: a question: no act");
        is(12, nine.count(10));
    }

    private static void players() {
        Seattable x = new Seattable();
        says("39: weight 0 to 100; returns its number");
        is(0, x.addPlayer(0));
        is(1, x.addPlayer(100));
        isRefused(ARGUMENT, () -> x.addPlayer(-1));
        isRefused(ARGUMENT, () -> x.addPlayer(101));
        isRefused(ARGUMENT, () -> x.addPlayer(LOW));
        isRefused(ARGUMENT, () -> x.addPlayer(FAR));
        is(2, x.count(6));
        says("39: IllegalStateException if there are 6");
        for (int i = 2; i < 6; i++) {
            is(i, x.addPlayer(100));
        }
        isRefused(STATE, () -> x.addPlayer(1));
        is(6, x.count(6));
        says("39: of several exceptions the first one listed");
        isRefused(ARGUMENT, () -> x.addPlayer(101));
        says("39: an act, which can be taken back, and done again");
        is(5, x.undo());
        is(5, x.addPlayer(3));
        says("40: majority 1 to 600; returns the majority before");
        is(1, x.setMajority(600));
        is(600, x.setMajority(1));
        isRefused(ARGUMENT, () -> x.setMajority(0));
        isRefused(ARGUMENT, () -> x.setMajority(601));
        isRefused(ARGUMENT, () -> x.setMajority(-1));
        isRefused(ARGUMENT, () -> x.setMajority(LOW));
        isRefused(ARGUMENT, () -> x.setMajority(FAR));
        says("40: an act");
        is(8, x.count(10));
        x.undo();
        is(600, x.setMajority(5));
    }

    private static void winners() {
        says("section 10: a set wins if its weights together are at least the majority");
        is("3", leastSets(players(5, 3, 2)));
        is("", leastSets(players(6, 3, 2)));
        is("1 2", leastSets(players(2, 3, 2)));
        is("1", leastSets(players(3, 3, 2)));
        says("section 10: each one in a least winning set is a swing (one without weight is in none)");
        is("1", leastSets(players(1, 5, 0)));
        is("3 5", leastSets(players(51, 50, 30, 20)));
        is("6", leastSets(players(5, 0, 3, 2)));
        says("42: by ascending numbers as sets");
        is("3 5 6", leastSets(players(2, 1, 1, 1)));
        is("3 5 6 9 10 12", leastSets(players(2, 1, 1, 1, 1)));
        is("7 8", leastSets(players(3, 1, 1, 1, 3)));
        is("63", leastSets(players(600, 100, 100, 100, 100, 100, 100)));
        is("1 2 4 8 16 32", leastSets(players(1, 1, 1, 1, 1, 1, 1)));
        is(20, players(3, 1, 1, 1, 1, 1, 1).count(11));
        says("42: NoSuchElementException if there is no such one");
        Seattable x = players(51, 50, 30, 20);
        is(5, x.leastAt(1));
        isRefused(ELEMENT, () -> x.leastAt(2));
        isRefused(ELEMENT, () -> x.leastAt(-1));
        isRefused(ELEMENT, () -> x.leastAt(FAR));
        isRefused(ELEMENT, () -> x.leastAt(LOW));
        isRefused(ELEMENT, () -> new Seattable().leastAt(0));
        isRefused(ELEMENT, () -> players(6, 3, 2).leastAt(0));
    }

    private static void powers() {
        says("section 10: the share of all orders in which it is the one that makes those ahead of it win");
        Seattable x = players(51, 50, 30, 20);
        is("1 2/3", power(x, 0, false));
        is("1 1/6", power(x, 1, false));
        is("1 1/6", power(x, 2, false));
        says("section 10: its swings divided by those of all");
        is("1 3/5", power(x, 0, true));
        is("1 1/5", power(x, 1, true));
        is("1 1/5", power(x, 2, true));
        says("section 10: one who never swings has no power");
        Seattable dummy = players(3, 3, 2, 0);
        for (int player = 1; player < 3; player++) {
            is("0 0/1", power(dummy, player, false));
            is("0 0/1", power(dummy, player, true));
        }
        is("1 1/1", power(dummy, 0, false));
        is("1 1/1", power(dummy, 0, true));
        says("section 10: one alone");
        is("1 1/1", power(players(7, 7), 0, true));
        is("1 1/1", power(players(7, 7), 0, false));
        says("41: 0 if no set wins");
        is("0 0/1", power(players(8, 7), 0, true));
        is("0 0/1", power(players(8, 7), 0, false));
        Seattable all = players(600, 100, 100, 100, 100, 100, 100);
        is("1 1/6", power(all, 5, true));
        is("1 1/6", power(all, 5, false));
        all.setMajority(1);
        is("1 1/6", power(all, 0, true));
        is("1 1/6", power(all, 0, false));
        all.setMajority(301);
        is("1 1/6", power(all, 3, false));
        says("41: six players who are not alike");
        Seattable six = players(6, 3, 2, 2, 1, 1, 1);
        int[] swings = new int[6];
        int together = 0;
        for (int player = 0; player < 6; player++) {
            for (int set = 0; set < 64; set++) {
                swings[player] += isSwing(set, player) ? 1 : 0;
            }
            together += swings[player];
        }
        for (int player = 0; player < 6; player++) {
            six.power(player, true);
            int divisor = together / six.digits(true, 0);
            is(swings[player], six.digits(false, 0) * divisor);
        }
        says("41: IndexOutOfBoundsException see section 1");
        isRefused(BOUNDS, () -> x.power(3, true));
        isRefused(BOUNDS, () -> x.power(-1, false));
        isRefused(BOUNDS, () -> x.power(FAR, true));
        isRefused(BOUNDS, () -> x.power(LOW, false));
        is("1/5", board(x));
    }

    private static boolean isSwing(int set, int player) {
        int[] weights = {3, 2, 2, 1, 1, 1};
        int sum = 0;
        for (int i = 0; i < 6; i++) {
            sum += (set >> i & 1) * weights[i];
        }
        return (set >> player & 1) == 1 && sum >= 6 && sum - weights[player] < 6;
    }

    private static void weightsToldOtherwise() {
        says("43: 0 if no set wins");
        is(0, new Seattable().otherwise());
        is(0, players(8, 7).otherwise());
        is(0, players(1, 0, 0).otherwise());
        says("section 10: whole weights, 0 or above: one who never swings has 0");
        is(1, players(3, 3, 2, 0).otherwise());
        is(2, players(6, 3, 3, 2).otherwise());
        says("section 10: the least sum with which the same sets win");
        is(4, players(51, 50, 30, 20).otherwise());
        is(3, players(10, 9, 8, 7).otherwise());
        is(6, players(600, 100, 100, 100, 100, 100, 100).otherwise());
        is(6, players(1, 100, 100, 100, 100, 100, 100).otherwise());
        is(6, players(301, 100, 100, 100, 100, 100, 100).otherwise());
        says("section 10: whatever order the players have");
        is(4, players(51, 20, 30, 50).otherwise());
        is(4, players(51, 30, 50, 20).otherwise());
        is(2, players(6, 2, 3, 3).otherwise());
        is(1, players(3, 0, 2, 3).otherwise());
        is(9, players(5, 1, 2, 1, 3, 2).otherwise());
        is(14, players(51, 5, 10, 15, 15, 20, 35).otherwise());
        is(7, players(5, 1, 1, 1, 2, 4).otherwise());
        says("43: by the majority that is set when it is asked (5 of 3 + 2 + 2 + 1 + 1; then 9, 1 and 7)");
        Seattable again = players(5, 3, 2, 2, 1, 1);
        is(9, again.otherwise());
        again.setMajority(9);
        is(5, again.otherwise());
        again.setMajority(1);
        is(5, again.otherwise());
        again.setMajority(3);
        is("1 6 10 12 18 20", leastSets(again));
        again.setMajority(10);
        is(0, again.otherwise());
        Seattable dummy = players(4, 3, 2, 1);
        is(4, dummy.otherwise());
        dummy.setMajority(5);
        is(2, dummy.otherwise());
        says("section 10: with some majority, another one than before");
        is(1, players(100, 100).otherwise());
        is(2, players(200, 100, 100).otherwise());
        is(2, players(100, 100, 100).otherwise());
        says("section 10: told as it is, if there is no lesser sum");
        is(9, players(5, 3, 2, 2, 1, 1).otherwise());
        is(7, players(5, 4, 2, 1, 1, 1).otherwise());
        says("43: a question: no board, no act");
        Seattable x = players(51, 50, 30, 20);
        x.otherwise();
        is("0/1", board(x));
        is(4, x.count(10));
        is("3 5", leastSets(x));
    }

    public static void main(String[] args) {
        blocks();
        neighbours();
        allMaps();
        toldMaps();
        tilts();
        persons();
        wants();
        panels();
        chances();
        players();
        winners();
        powers();
        weightsToldOtherwise();
        finish("GroupsEdgesTest");
    }
}
