import java.util.ArrayList;
import java.util.Arrays;
import java.util.List;
import java.util.Random;

/**
 * What OracleTest is too slow for: tables with 40 seats for 6 parties and 5 lands, maps of 9 blocks, agendas of 6
 * candidates, each one compared with plain tries.
 */
public final class FullHousesTest extends Checks {
    private static final Random RANDOM = new Random(20261119);

    // ---- tables

    /** One house with tables, and one of its tables with the factors that the words of section 4 give. */
    private static final class Table {
        int parties;
        int lands;
        int[][] votes;
        int[][] seats;
        int[] partySums;
        int[] landSums;
        int postTop;
        int postBottom;
        Naive.Q[] partyFactors;
        Naive.Q[] landFactors;
        int[] partyBlocks;
        int[] landBlocks;

        Naive.Q post(int n) {
            return new Naive.Q((long) n * postBottom + postTop, postBottom);
        }

        Naive.Q product(int party, int land) {
            return new Naive.Q(votes[party][land], 1).times(partyFactors[party]).times(landFactors[land]);
        }

        boolean isIn(int block, int party, int land) {
            return partyBlocks[party] == block && landBlocks[land] == block && votes[party][land] > 0;
        }

        void findFactors() {
            partyFactors = new Naive.Q[parties];
            landFactors = new Naive.Q[lands];
            partyBlocks = new int[parties];
            landBlocks = new int[lands];
            int block = 0;
            for (int first = 0; first < parties; first++) {
                if (partySums[first] > 0 && partyBlocks[first] == 0) {
                    block++;
                    partyBlocks[first] = block;
                    partyFactors[first] = Naive.Q.ONE;
                    gather(block);
                    tighten(block);
                    putBelow(block);
                }
            }
            for (int party = 0; party < parties; party++) {
                partyFactors[party] = partyFactors[party] == null ? Naive.Q.ZERO : partyFactors[party];
            }
            for (int land = 0; land < lands; land++) {
                landFactors[land] = landFactors[land] == null ? Naive.Q.ONE : landFactors[land];
            }
        }

        private void gather(int block) {
            for (int step = 0; step < 12; step++) {
                for (int cell = 0; cell < parties * lands; cell++) {
                    int party = cell / lands;
                    int land = cell % lands;
                    if (partyBlocks[party] == block && landBlocks[land] == 0 && votes[party][land] > 0) {
                        landBlocks[land] = block;
                    }
                    if (landBlocks[land] == block && seats[party][land] > 0) {
                        partyBlocks[party] = block;
                    }
                }
            }
        }

        /** Of a table that is not right the bounds would never stand still: 30 turns are enough for right ones. */
        private void tighten(int block) {
            boolean isChanged = true;
            for (int turn = 0; turn < 30 && isChanged; turn++) {
                isChanged = false;
                for (int cell = 0; cell < parties * lands; cell++) {
                    int party = cell / lands;
                    int land = cell % lands;
                    if (isIn(block, party, land)) {
                        isChanged |= tightenCell(party, land);
                    }
                }
            }
        }

        private boolean tightenCell(int party, int land) {
            Naive.Q claim = new Naive.Q(votes[party][land], 1);
            int there = seats[party][land];
            boolean isChanged = false;
            if (partyFactors[party] != null) {
                Naive.Q most = post(there).by(claim.times(partyFactors[party]));
                if (landFactors[land] == null || most.compareTo(landFactors[land]) < 0) {
                    landFactors[land] = most;
                    isChanged = true;
                }
            }
            if (landFactors[land] != null && there > 0) {
                Naive.Q least = post(there - 1).by(claim.times(landFactors[land]));
                if (partyFactors[party] == null || least.compareTo(partyFactors[party]) > 0) {
                    partyFactors[party] = least;
                    isChanged = true;
                }
            }
            return isChanged;
        }

        private void putBelow(int block) {
            Naive.Q k = Naive.Q.ONE;
            for (int cell = 0; cell < parties * lands; cell++) {
                int party = cell / lands;
                int land = cell % lands;
                boolean isAhead = landBlocks[land] > 0 && landBlocks[land] < block;
                if (partyBlocks[party] == block && isAhead && votes[party][land] > 0) {
                    Naive.Q most = post(0).by(product(party, land));
                    k = most.compareTo(k) < 0 ? most : k;
                }
            }
            for (int party = 0; party < parties; party++) {
                partyFactors[party] = partyBlocks[party] == block ? partyFactors[party].times(k) : partyFactors[party];
            }
            for (int land = 0; land < lands; land++) {
                landFactors[land] = landBlocks[land] == block ? landFactors[land].by(k) : landFactors[land];
            }
        }

        /** All tables with these factors: each cell lies between its signposts, those just on one have a choice. */
        List<String> allTables() {
            int[][] low = new int[parties][lands];
            boolean[][] isOpen = new boolean[parties][lands];
            for (int cell = 0; cell < parties * lands; cell++) {
                int party = cell / lands;
                int land = cell % lands;
                if (votes[party][land] > 0) {
                    int n = 0;
                    while (n < 400 && product(party, land).compareTo(post(n)) > 0) {
                        n++;
                    }
                    low[party][land] = n;
                    isOpen[party][land] = product(party, land).compareTo(post(n)) == 0;
                }
            }
            List<String> all = new ArrayList<>();
            choose(0, low, isOpen, all);
            return all;
        }

        private void choose(int cell, int[][] trial, boolean[][] isOpen, List<String> all) {
            if (all.size() > 60 || !canFit(cell, trial, isOpen)) {
                return;
            }
            if (cell == parties * lands) {
                StringBuilder told = new StringBuilder();
                for (int[] row : trial) {
                    for (int land = 0; land < lands; land++) {
                        told.append(land > 0 ? " " : "").append(row[land]);
                    }
                    told.append('|');
                }
                all.add(told.append("-|").toString());
                return;
            }
            if (isOpen[cell / lands][cell % lands]) {
                trial[cell / lands][cell % lands]++;
                choose(cell + 1, trial, isOpen, all);
                trial[cell / lands][cell % lands]--;
            }
            choose(cell + 1, trial, isOpen, all);
        }

        /** Whether the open cells from one on are just enough for what parties and lands still want. */
        private boolean canFit(int from, int[][] trial, boolean[][] isOpen) {
            int[] partyNeeds = partySums.clone();
            int[] landNeeds = landSums.clone();
            int[] partyRoom = new int[parties];
            int[] landRoom = new int[lands];
            for (int cell = 0; cell < parties * lands; cell++) {
                int party = cell / lands;
                int land = cell % lands;
                partyNeeds[party] -= trial[party][land];
                landNeeds[land] -= trial[party][land];
                partyRoom[party] += cell >= from && isOpen[party][land] ? 1 : 0;
                landRoom[land] += cell >= from && isOpen[party][land] ? 1 : 0;
            }
            boolean isFit = true;
            for (int party = 0; party < parties; party++) {
                isFit &= partyNeeds[party] >= 0 && partyNeeds[party] <= partyRoom[party];
            }
            for (int land = 0; land < lands; land++) {
                isFit &= landNeeds[land] >= 0 && landNeeds[land] <= landRoom[land];
            }
            return isFit;
        }
    }

    private static int votesOf(int kind, int party, int land) {
        if (kind != 2 && RANDOM.nextInt(5) == 0) {
            return 0;
        }
        return switch (kind) {
            case 0 -> 1 + RANDOM.nextInt(3);
            case 1 -> 10 + 10 * RANDOM.nextInt(4);
            case 2 -> 7;
            case 3 -> 1 + RANDOM.nextInt(1000000);
            case 4 -> 10 * (party + 1) * (land + 1);
            default -> 1 << RANDOM.nextInt(5);
        };
    }

    /** Votes, and sums that a table can have. */
    private static Table anyTable() {
        Table t = new Table();
        t.parties = 1 + RANDOM.nextInt(6);
        t.lands = 1 + RANDOM.nextInt(5);
        t.votes = new int[t.parties][t.lands];
        t.partySums = new int[t.parties];
        t.landSums = new int[t.lands];
        int kind = RANDOM.nextInt(6);
        List<Integer> cells = new ArrayList<>();
        for (int cell = 0; cell < t.parties * t.lands; cell++) {
            int votes = votesOf(kind, cell / t.lands, cell % t.lands);
            t.votes[cell / t.lands][cell % t.lands] = votes;
            if (votes > 0) {
                cells.add(cell);
            }
        }
        int seats = cells.isEmpty() ? 0 : RANDOM.nextInt(41);
        for (int seat = 0; seat < seats; seat++) {
            int cell = cells.get(RANDOM.nextInt(cells.size()));
            t.partySums[cell / t.lands]++;
            t.landSums[cell % t.lands]++;
        }
        t.postBottom = 1 + RANDOM.nextInt(RANDOM.nextBoolean() ? 4 : 1000);
        t.postTop = 1 + RANDOM.nextInt(t.postBottom);
        return t;
    }

    private static void tables(int runs) {
        for (int run = 0; run < runs; run++) {
            Table t = anyTable();
            Seattable x = table(t.votes, t.partySums, t.landSums);
            x.setPost(t.postTop, t.postBottom);
            int many = x.fill();
            says("section 4, run " + run + ": there is a right table, as there is one with these sums");
            is("0 0 0 0 0", cut(x));
            is(true, many > 0);
            for (int table = 0; table < many; table += 1 + many / 3) {
                factors(x, t, table, "section 4, run " + run + ", table " + table);
            }
        }
    }

    private static void factors(Seattable x, Table t, int table, String where) {
        t.seats = new int[t.parties][t.lands];
        for (int cell = 0; cell < t.parties * t.lands; cell++) {
            t.seats[cell / t.lands][cell % t.lands] = x.cellAt(table, cell / t.lands, cell % t.lands);
        }
        t.findFactors();
        says(where + ": the factors");
        for (int party = 0; party < t.parties; party++) {
            x.factor(table, false, party);
            is(t.partyFactors[party].n + "/" + t.partyFactors[party].d, board(x));
        }
        for (int land = 0; land < t.lands; land++) {
            x.factor(table, true, land);
            is(t.landFactors[land].n + "/" + t.landFactors[land].d, board(x));
        }
        says(where + ": the right tables in their order");
        List<String> all = t.allTables();
        is(String.join("", all.subList(0, Math.min(60, all.size()))), tables(x));
    }

    // ---- maps

    private static final class Blocks {
        int many;
        int[][] people;
        boolean[][] near;
        int[] map;

        /** How many pieces the map has that hang together. */
        int pieces() {
            int[] piece = new int[many];
            for (int block = 0; block < many; block++) {
                piece[block] = block;
            }
            for (int step = 0; step < many; step++) {
                for (int one = 0; one < many; one++) {
                    for (int other = 0; other < many; other++) {
                        if (near[one][other] && map[one] == map[other]) {
                            piece[one] = Math.min(piece[one], piece[other]);
                        }
                    }
                }
            }
            return (int) Arrays.stream(piece).distinct().count();
        }

        /** Reads a code; districts must be numbered by their least blocks, and none be empty. */
        boolean isMap(int code, int districts) {
            int used = 0;
            int rest = code;
            for (int block = many - 1; block >= 0; block--) {
                map[block] = rest % districts;
                rest /= districts;
            }
            for (int block = 0; block < many; block++) {
                if (map[block] > used) {
                    return false;
                }
                used += map[block] == used ? 1 : 0;
            }
            return used == districts && pieces() == districts;
        }

        int sum(int district, int what) {
            int sum = 0;
            for (int block = 0; block < many; block++) {
                sum += map[block] == district ? people[block][what] : 0;
            }
            return sum;
        }

        int spread(int districts) {
            int least = FAR;
            int greatest = 0;
            for (int district = 0; district < districts; district++) {
                least = Math.min(least, sum(district, 0));
                greatest = Math.max(greatest, sum(district, 0));
            }
            return greatest - least;
        }

        int rim() {
            int rim = 0;
            for (int one = 0; one < many; one++) {
                for (int other = 0; other < one; other++) {
                    rim += near[one][other] && map[one] != map[other] ? 1 : 0;
                }
            }
            return rim;
        }

        int red(int districts) {
            int red = 0;
            for (int district = 0; district < districts; district++) {
                red += sum(district, 1) > sum(district, 2) ? 1 : 0;
            }
            return red;
        }
    }

    private static void maps(int runs) {
        for (int run = 0; run < runs; run++) {
            Blocks b = new Blocks();
            b.many = 8 + run % 2;
            b.people = new int[b.many][3];
            b.near = new boolean[b.many][b.many];
            b.map = new int[b.many];
            Seattable x = new Seattable();
            int most = new int[] {1, 3, 1000}[RANDOM.nextInt(3)];
            for (int[] block : b.people) {
                for (int k = 0; k < 3; k++) {
                    block[k] = RANDOM.nextInt(most + 1);
                }
                x.addBlock(block[0], block[1], block[2]);
            }
            for (int k = 1; k < b.many + 5; k++) {
                int one = k % b.many;
                int other = k < b.many ? RANDOM.nextInt(k) : RANDOM.nextInt(b.many);
                if (one != other && RANDOM.nextInt(12) > 0) {
                    x.join(one, other);
                    b.near[one][other] = true;
                    b.near[other][one] = true;
                }
            }
            for (int districts = 1; districts <= 3; districts++) {
                says("section 8, run " + run + ", " + districts + " districts");
                mapsOf(x, b, districts, RANDOM.nextInt(3 * most + 1));
            }
        }
    }

    private static void mapsOf(Seattable x, Blocks b, int districts, int limit) {
        int many = 0;
        int alike = 0;
        int[] told = null;
        int spread = NONE;
        int rim = NONE;
        int fewest = NONE;
        int most = NONE;
        for (int code = 0; code < Math.round(Math.pow(districts, b.many - 1)); code++) {
            if (b.isMap(code, districts)) {
                many++;
                boolean isAlike = told != null && b.spread(districts) == spread && b.rim() == rim;
                boolean isBetter = told == null || b.spread(districts) < spread
                        || b.spread(districts) == spread && b.rim() < rim;
                alike = isBetter ? 1 : isAlike ? alike + 1 : alike;
                told = isBetter ? b.map.clone() : told;
                spread = isBetter ? b.spread(districts) : spread;
                rim = isBetter ? b.rim() : rim;
                if (b.spread(districts) <= limit) {
                    fewest = fewest == NONE ? b.red(districts) : Math.min(fewest, b.red(districts));
                    most = Math.max(most, b.red(districts));
                }
            }
        }
        is(many, x.maps(districts, 0));
        is(spread, x.maps(districts, 1));
        is(rim, x.maps(districts, 2));
        is(many == 0 ? NONE : alike, x.maps(districts, 3));
        is(fewest, x.tilt(districts, limit, false));
        is(most, x.tilt(districts, limit, true));
        if (told == null) {
            isRefused(ELEMENT, () -> x.districtAt(districts, 0));
        } else {
            is(Arrays.toString(told).replaceAll("[\\[\\],]", ""), districts(x, districts));
        }
    }

    // ---- agendas

    private static void agendas(int runs) {
        for (int run = 0; run < runs; run++) {
            Seattable x = new Seattable();
            x.setCandidates(6);
            int[][] above = new int[6][6];
            int ballots = 1 + RANDOM.nextInt(20);
            for (int k = 0; k < ballots; k++) {
                ballot(x, above);
            }
            int[] many = new int[6];
            int[] first = new int[6];
            for (int agenda = 123456; agenda <= 654321; agenda++) {
                String order = "" + agenda;
                if (order.matches("[1-6]*") && order.chars().distinct().count() == 6) {
                    int left = leftBy(order, above);
                    first[left] = many[left] == 0 ? agenda : first[left];
                    many[left]++;
                }
            }
            for (int c = 0; c < 6; c++) {
                says("46 and 47, run " + run + ", candidate " + c);
                is(first[c], x.agendaFor(c));
                is(many[c], x.agendasFor(c));
                if (first[c] > 0) {
                    is(c, x.agenda(first[c]));
                }
            }
        }
    }

    private static void ballot(Seattable x, int[][] above) {
        int many = 1 + RANDOM.nextInt(3);
        int length = RANDOM.nextInt(7);
        StringBuilder row = new StringBuilder();
        while (row.length() < length) {
            String sign = "" + (1 + RANDOM.nextInt(6));
            if (row.indexOf(sign) < 0) {
                row.append(sign);
            }
        }
        x.addBallot(many, length == 0 ? 0 : Integer.parseInt(row.toString()));
        for (int one = 0; one < 6; one++) {
            for (int other = 0; other < 6; other++) {
                int mine = row.indexOf("" + (one + 1));
                int its = row.indexOf("" + (other + 1));
                above[one][other] += one != other && mine >= 0 && (its < 0 || mine < its) ? many : 0;
            }
        }
    }

    private static int leftBy(String order, int[][] above) {
        int left = order.charAt(0) - '1';
        for (int k = 1; k < order.length(); k++) {
            int next = order.charAt(k) - '1';
            left = above[next][left] > above[left][next] ? next : left;
        }
        return left;
    }

    public static void main(String[] args) {
        int scale = args.length > 0 ? Integer.parseInt(args[0]) : 1;
        tables(1000 * scale);
        maps(12 * scale);
        agendas(6 * scale);
        finish("FullHousesTest");
    }
}
