import java.util.Random;

/** The edges of "==== 4." and of promises 20 to 23: readers, readings, seasons put right and stays. */
final class SeasonEdgesTest {
    private static final int ONE = 2;

    private final Edges edges = new Edges();

    public static void main(String[] args) {
        SeasonEdgesTest test = new SeasonEdgesTest();
        test.seasons();
        test.readersAtFirst();
        test.rowsOfSixteen();
        test.rowsOfEach();
        test.readingsAtATime();
        test.readingsInAll();
        test.readingsOfEach();
        test.asManyAsReadings();
        test.leastSum();
        test.leastSumAtTheEnds();
        test.leastSumOfAll();
        test.firstOfSeveral();
        test.miss();
        test.stays();
        test.readsCall();
        test.readingsCall();
        test.seasonCall();
        test.stayCall();
        test.edges.end();
    }

    private void seasons() {
        edges.sentence("SEASONS 0 .. 3.");
        for (int season = 0; season <= 3; season++) {
            ShellHeap x = Desks.withLayers(1);
            edges.due("a row of season " + season, x.reads(0, season, 16, 0, 0, 0), true);
            int[] one = new int[4];
            one[season] = 1;
            edges.due("told as season " + season, x.readings(0, 1, one[0], one[1], one[2], one[3]), 1);
            edges.due("t of season " + season, x.season(0, 1, season), 1);
            edges.due("stays in season " + season, x.stay(0), 1 << season);
        }
        for (int season : Edges.beyond(0, 3)) {
            edges.due("no row of season " + season, Desks.withLayers(1).reads(0, season, 16, 0, 0, 0), false);
        }
    }

    private void tellsRight(ShellHeap x, int layer, int reader, int... due) {
        for (int what = 0; what < due.length; what++) {
            edges.due("reader " + reader + ", what " + what, x.season(layer, reader, what), due[what]);
        }
    }

    private void readersAtFirst() {
        edges.sentence("READERS 0 .. 2: of a shell that died in SEASON i how many of 16 are told as j (16 for i = j, else 0, at first; each row 16).");
        ShellHeap x = Desks.withLayers(12);
        for (int reader = 0; reader <= 2; reader++) {
            edges.due("reader " + reader, x.readings(11, reader, 1 + reader, 2, 3, 4), 10 + reader);
            tellsRight(x, 11, reader, 1 + reader, 2, 3, 4, 0, 10 + reader);
        }
        for (int reader : Edges.beyond(0, 2)) {
            edges.due("reader " + reader, x.readings(0, reader, 1, 1, 1, 1), -1);
            edges.due("rows of reader " + reader, x.reads(reader, 0, 16, 0, 0, 0), false);
            edges.due("seasons of reader " + reader, x.season(0, reader, 5), -1);
        }
    }

    private void rowsOfSixteen() {
        int[][] good = {{16, 0, 0, 0}, {0, 16, 0, 0}, {0, 0, 16, 0}, {0, 0, 0, 16}, {4, 4, 4, 4}, {1, 2, 3, 10}, {15, 0, 0, 1}};
        int[][] bad = {{15, 0, 0, 0}, {0, 15, 0, 0}, {0, 0, 15, 0}, {0, 0, 0, 15}, {16, 1, 0, 0}, {0, 16, 1, 0},
            {0, 0, 16, 1}, {1, 0, 0, 16}, {17, 0, 0, 0}, {0, 0, 0, 0}, {17, -1, 0, 0}, {-1, 17, 0, 0}, {0, 0, 17, -1},
            {0, 0, -1, 17}, {8, 10, -2, 0}, {4, 4, 4, 3}, {4, 4, 4, 5}, {Edges.MAX, Edges.MAX, 18, 0},
            {Edges.MIN, Edges.MIN, 16, 0}, {Edges.MIN, Edges.MIN, 0, 16}, {Edges.MAX, Edges.MIN, 17, 0},
            {1 << 30, 1 << 30, Edges.MIN, 16}, {16, 1 << 31, 1 << 31, 0}};
        for (int[] row : good) {
            edges.due(java.util.Arrays.toString(row), reads(Desks.withLayers(1), 2, 3, row), true);
        }
        ShellHeap x = Desks.withLayers(1);
        x.readings(0, 2, 0, 0, 0, 3);
        for (int[] row : bad) {
            edges.due(java.util.Arrays.toString(row), reads(x, 2, 3, row), false);
            tellsRight(x, 0, 2, 0, 0, 0, 3, 0);
        }
    }

    private static boolean reads(ShellHeap x, int reader, int season, int... row) {
        return x.reads(reader, season, row[0], row[1], row[2], row[3]);
    }

    /** A row of one reader is no other one's: each reader tells another season as 0 and 0 as that one. */
    private void rowsOfEach() {
        ShellHeap x = Desks.withLayers(1);
        for (int reader = 0; reader <= 2; reader++) {
            int[] row = new int[4];
            row[reader + 1] = 16;
            edges.due("0 is told as " + (reader + 1), reads(x, reader, 0, row), true);
            edges.due("and that as 0", x.reads(reader, reader + 1, 16, 0, 0, 0), true);
        }
        x.readings(0, 0, 1, 2, 3, 4);
        x.readings(0, 1, 1, 2, 3, 4);
        x.readings(0, 2, 1, 2, 3, 4);
        tellsRight(x, 0, 0, 2, 1, 3, 4, 0, 10);
        tellsRight(x, 0, 1, 3, 2, 1, 4, 0, 10);
        tellsRight(x, 0, 2, 4, 2, 3, 1, 0, 10);
        x.reads(1, 0, 16, 0, 0, 0);
        x.reads(1, 2, 0, 0, 16, 0);
        tellsRight(x, 0, 1, 1, 2, 3, 4, 0, 10);
    }

    private void readingsAtATime() {
        edges.sentence("READINGS of a LAYER by a READER: how many shells were told as each SEASON (0 .. 9 more at a time; all of a BED by a READER at most 40).");
        for (int at = 0; at < 4; at++) {
            ShellHeap x = Desks.withLayers(1);
            for (int many : Edges.beyond(0, 9)) {
                int[] row = {1, 1, 1, 1};
                row[at] = many;
                edges.due(many + " as season " + at, x.readings(0, 0, row[0], row[1], row[2], row[3]), -1);
            }
            edges.due("none came", x.season(0, 0, 5), 0);
            int[] row = new int[4];
            row[at] = 9;
            edges.due("9 as season " + at, x.readings(0, 0, row[0], row[1], row[2], row[3]), 9);
            row[at] = 1;
            edges.due("1 as season " + at, x.readings(0, 0, row[0], row[1], row[2], row[3]), 10);
            int[] due = new int[4];
            due[at] = 10;
            tellsRight(x, 0, 0, due);
        }
        edges.due("none at a time", Desks.withLayers(1).readings(0, 0, 0, 0, 0, 0), -1);
        edges.due("9 of each", Desks.withLayers(1).readings(0, 0, 9, 9, 9, 9), 36);
        // these go round to 1 or 2 together
        edges.due("round", Desks.withLayers(1).readings(0, 0, Edges.MAX, Edges.MAX, 3, 1), -1);
        edges.due("round below 0", Desks.withLayers(1).readings(0, 0, Edges.MIN, Edges.MIN, 1, 1), -1);
    }

    private void readingsInAll() {
        ShellHeap x = Desks.withLayers(12);
        x.readings(0, 0, 9, 9, 9, 9);
        edges.due("41", x.readings(0, 0, 2, 1, 1, 1), -1);
        edges.due("44", x.readings(0, 0, 2, 2, 2, 2), -1);
        edges.due("36 stay", x.season(0, 0, 5), 36);
        edges.due("39", x.readings(0, 0, 0, 1, 1, 1), 39);
        edges.due("41 by two", x.readings(0, 0, 1, 1, 0, 0), -1);
        edges.due("40", x.readings(0, 0, 1, 0, 0, 0), 40);
        edges.due("one more", x.readings(0, 0, 0, 0, 0, 1), -1);
        tellsRight(x, 0, 0, 10, 10, 10, 10, 0, 40);
        ShellHeap y = Desks.withLayers(12);
        for (int i = 1; i < 12; i++) {
            y.note(ONE, i - 1, i, 0);
        }
        for (int i = 0; i < 12; i++) {
            edges.due("of a bed of twelve", y.readings(i, 2, 1, 1, 1, 0), 3 * (i + 1));
        }
        edges.due("37 to 40", y.readings(11, 2, 0, 0, 0, 4), 40);
        for (int i = 0; i < 12; i++) {
            edges.due("one more by layer " + i, y.readings(i, 2, 1, 0, 0, 0), -1);
        }
        tellsRight(y, 5, 2, 12, 12, 12, 4, 0, 40);
        y.strike(10);
        edges.due("the last layer alone has 7", y.season(11, 2, 5), 7);
        edges.due("the others 33", y.season(0, 2, 5), 33);
        edges.due("7 to 8", y.readings(11, 2, 1, 0, 0, 0), 8);
    }

    /** Each layer and reader has numbers of its own. */
    private void readingsOfEach() {
        ShellHeap x = Desks.withLayers(12);
        for (int layer = 0; layer < 12; layer++) {
            for (int reader = 0; reader < 3; reader++) {
                edges.due("its own", x.readings(layer, reader, layer % 10, reader, 1, layer / 10), layer % 10 + reader + 1 + layer / 10);
            }
        }
        for (int layer = 0; layer < 12; layer++) {
            for (int reader = 0; reader < 3; reader++) {
                edges.due("t of 0", x.season(layer, reader, 0), layer % 10);
                edges.due("t of 1", x.season(layer, reader, 1), reader);
                edges.due("t of 3", x.season(layer, reader, 3), layer / 10);
            }
        }
    }

    private void asManyAsReadings() {
        edges.sentence("PUT RIGHT for a BED and a READER: numbers t of shells by SEASONS, together as many as READINGS:");
        int[][] rows = {{13, 1, 1, 1}, {2, 9, 5, 0}, {0, 5, 9, 2}, {7, 0, 0, 9}};
        for (int many = 0; many <= 40; many++) {
            ShellHeap x = Desks.withLayers(1);
            for (int i = 0; i < 4; i++) {
                reads(x, 1, i, rows[i]);
            }
            for (int told = 0; told < many; told += 5) {
                int more = Math.min(5, many - told);
                edges.due("readings", x.readings(0, 1, more, 0, 0, 0), told + more);
            }
            int sum = 0;
            for (int i = 0; i < 4; i++) {
                int t = x.season(0, 1, i);
                edges.due("t is not below 0", t >= 0, true);
                sum += t;
            }
            edges.due("t together of " + many, sum, many);
        }
    }

    private void leastSum() {
        edges.sentence("such that the sum over told SEASONS j of the square of (16 times READINGS of j, less the sum over i of t of i times what of 16 is told as j) is least;");
        for (int low = 0; low < 3; low++) {
            // of 16 of both seasons 13 are told right and 3 as the other: t of the lower one would be (16 a - 3 (a + b)) / 10
            pair(low, 13, 2, 1, 2, 18);
            pair(low, 13, 3, 1, 4, 32);
            pair(low, 13, 3, 2, 3, 18);
            pair(low, 13, 2, 2, 2, 0);
            pair(low, 13, 1, 2, 1, 18);
            pair(low, 13, 1, 3, 0, 32);
            pair(low, 13, 9, 9, 9, 0);
            pair(low, 16, 7, 5, 7, 0);
            // the other way round: 3 are told right and 13 as the other
            pair(low, 3, 3, 1, 0, 32);
            pair(low, 3, 2, 1, 1, 18);
        }
    }

    /** Told a of a season and b of the next one, by a reader who tells these alike wrong: t of the first, and the miss. */
    private void pair(int low, int right, int a, int b, int due, int miss) {
        ShellHeap x = Desks.withLayers(1);
        int[] first = new int[4];
        int[] second = new int[4];
        int[] told = new int[4];
        first[low] = right;
        first[low + 1] = 16 - right;
        second[low] = 16 - right;
        second[low + 1] = right;
        told[low] = a;
        told[low + 1] = b;
        reads(x, 0, low, first);
        reads(x, 0, low + 1, second);
        x.readings(0, 0, told[0], told[1], told[2], told[3]);
        String what = right + " of 16 right, " + a + " and " + b + " told of " + low;
        edges.due(what + ": t", x.season(0, 0, low), due);
        edges.due(what + ": the next t", x.season(0, 0, low + 1), a + b - due);
        edges.due(what + ": miss", x.season(0, 0, 4), miss);
    }

    /** Where the least sum would ask for less than no shell, it is none. */
    private void leastSumAtTheEnds() {
        for (int low = 0; low < 3; low++) {
            pair(low, 12, 4, 0, 4, 2 * 16 * 16);
            pair(low, 12, 0, 4, 0, 2 * 16 * 16);
            pair(low, 9, 9, 0, 9, 2 * 63 * 63);
            pair(low, 9, 0, 9, 0, 2 * 63 * 63);
            pair(low, 7, 9, 0, 0, 2 * 63 * 63);
            pair(low, 7, 0, 9, 9, 2 * 63 * 63);
        }
    }

    /** Rows that are almost alike, or any, with as many readings as may be: told as by trying all numbers there are. */
    private void leastSumOfAll() {
        for (int seed = 0; seed < 400; seed++) {
            Random random = new Random(seed);
            ShellHeap x = Desks.withLayers(1);
            PlainDesk plain = new PlainDesk();
            plain.layer();
            for (int season = 0; season < 4; season++) {
                int[] row = seed % 2 == 0 ? almostAlike(random) : any(random);
                edges.due("a row", reads(x, 1, season, row), plain.reads(1, season, row[0], row[1], row[2], row[3]));
            }
            int times = 1 + random.nextInt(3);
            for (int i = 0; i < times; i++) {
                int[] told = {random.nextInt(8), random.nextInt(4), random.nextInt(4), random.nextInt(8)};
                edges.due("readings", x.readings(0, 1, told[0], told[1], told[2], told[3]), plain.readings(0, 1, told[0], told[1], told[2], told[3]));
            }
            for (int what = 0; what <= 4; what++) {
                edges.due("seed " + seed + ", what " + what, x.season(0, 1, what), plain.season(0, 1, what));
            }
        }
    }

    private static int[] almostAlike(Random random) {
        int[] row = {4, 4, 4, 4};
        row[random.nextInt(4)]++;
        row[random.nextInt(4)]--;
        return row;
    }

    private static int[] any(Random random) {
        int[] row = new int[4];
        for (int i = 0; i < 16; i++) {
            row[random.nextInt(random.nextBoolean() ? 4 : 2)]++;
        }
        return row;
    }

    private void firstOfSeveral() {
        edges.sentence("of several the first by t of 0, then 1, 2, 3, the lesser ahead.");
        ShellHeap x = Desks.withLayers(1);
        for (int i = 0; i < 4; i++) {
            x.reads(0, i, 4, 4, 4, 4);
        }
        x.readings(0, 0, 2, 2, 2, 2);
        tellsRight(x, 0, 0, 0, 0, 0, 8, 0, 8);
        for (int i = 0; i < 4; i++) {
            for (int j = i + 1; j < 4; j++) {
                alike(i, j);
            }
        }
        for (int low = 0; low < 3; low++) {
            // 12 and 4 of 16: t of the lower one would be 2 a - (a + b) / 2, which of an odd number is as far from two
            pair(low, 12, 3, 2, 3, 32);
            pair(low, 12, 2, 3, 1, 32);
            pair(low, 4, 3, 2, 1, 32);
            pair(low, 8, 3, 2, 0, 2 * 8 * 8);
            pair(low, 8, 4, 4, 0, 0);
        }
    }

    /** Two seasons that are both told as the first of them: all of the lesser t, so that all are of the second. */
    private void alike(int i, int j) {
        ShellHeap x = Desks.withLayers(1);
        int[] row = new int[4];
        row[i] = 16;
        reads(x, 2, j, row);
        int[] told = new int[4];
        told[i] = 7;
        x.readings(0, 2, told[0], told[1], told[2], told[3]);
        int[] due = new int[5];
        due[j] = 7;
        tellsRight(x, 0, 2, due);
        edges.due("stays in " + j, x.stay(0), 1 << j);
    }

    private void miss() {
        edges.sentence("MISS: that sum.");
        ShellHeap x = Desks.withLayers(1);
        edges.due("without readings", x.season(0, 0, 4), 0);
        x.readings(0, 0, 9, 9, 9, 9);
        edges.due("told right", x.season(0, 0, 4), 0);
        ShellHeap most = Desks.withLayers(1);
        for (int i = 0; i < 4; i++) {
            most.reads(0, i, 0, 0, 0, 16);
        }
        for (int i = 0; i < 4; i++) {
            most.readings(0, 0, 9, 0, 0, 0);
        }
        most.readings(0, 0, 4, 0, 0, 0);
        tellsRight(most, 0, 0, 0, 0, 0, 40, 2 * 640 * 640, 40);
        ShellHeap one = Desks.withLayers(1);
        for (int i = 0; i < 4; i++) {
            one.reads(0, i, 4, 4, 4, 4);
        }
        one.readings(0, 0, 1, 0, 0, 0);
        tellsRight(one, 0, 0, 0, 0, 0, 1, 12 * 12 + 3 * 4 * 4, 1);
    }

    private void stays() {
        edges.sentence("STAY: SEASONS with t above 0 of all READERS together (bits).");
        for (int bits = 0; bits < 16; bits++) {
            ShellHeap x = Desks.withLayers(1);
            for (int i = 0; i < 4; i++) {
                if ((bits >> i & 1) != 0) {
                    x.readings(0, i % 3, i == 0 ? 1 : 0, i == 1 ? 1 : 0, i == 2 ? 1 : 0, i == 3 ? 1 : 0);
                }
            }
            edges.due("each by some reader", x.stay(0), bits);
        }
        ShellHeap x = Desks.withLayers(2);
        x.readings(0, 0, 1, 1, 0, 0);
        x.readings(0, 1, 0, 1, 1, 0);
        x.readings(1, 2, 0, 0, 0, 1);
        edges.due("told by two readers is told once", x.stay(0), 7);
        edges.due("of another layer", x.stay(1), 8);
        x.note(ONE, 0, 1, 0);
        edges.due("of both", x.stay(1), 15);
        x.reads(1, 2, 0, 16, 0, 0);
        x.reads(1, 1, 0, 0, 16, 0);
        edges.due("turned round", x.stay(1), 15);
        x.strike(0);
        edges.due("parted", x.stay(1), 8);
    }

    private void readsCall() {
        edges.sentence("`boolean reads(int reader, int season, int a, int b, int c, int d)`: A row of a READER: of 16 that died in a SEASON how many are told as 0 .. 3: true; false: no such ones, not 16 together.");
        ShellHeap x = Desks.withLayers(1);
        x.readings(0, 2, 0, 0, 0, 2);
        for (int reader : Edges.beyond(0, 2)) {
            edges.due("reader " + reader, x.reads(reader, 3, 16, 0, 0, 0), false);
        }
        for (int season : Edges.beyond(0, 3)) {
            edges.due("season " + season, x.reads(2, season, 16, 0, 0, 0), false);
        }
        for (int many : Edges.beyond(0, 16)) {
            edges.due("told as 0: " + many, x.reads(2, 3, many, 16 - many, 0, 0), false);
            edges.due("told as 1: " + many, x.reads(2, 3, 0, many, 16 - many, 0), false);
            edges.due("told as 2: " + many, x.reads(2, 3, 0, 0, many, 16 - many), false);
            edges.due("told as 3: " + many, x.reads(2, 3, 16 - many, 0, 0, many), false);
        }
        tellsRight(x, 0, 2, 0, 0, 0, 2, 0, 2);
        edges.due("the last of both", x.reads(2, 3, 16, 0, 0, 0), true);
        // 2 told as 3, which no season is told as now: one each of two that are told apart misses least
        tellsRight(x, 0, 2, 0, 0, 1, 1, 16 * 16 + 16 * 16 + 32 * 32, 2);
        edges.due("needs no layer", new ShellHeap().reads(0, 0, 16, 0, 0, 0), true);
    }

    private void readingsCall() {
        edges.sentence("`int readings(int layer, int reader, int a, int b, int c, int d)`: READINGS of a LAYER by a READER: how many its BED (all NOTES) has by this READER then; NONE, and nothing happens: no such ones, none of a, b, c, d above 0, or it would be more than 40. (A BED that comes to have more by a later NOTE has them all.)");
        ShellHeap x = Desks.withLayers(2);
        for (int layer : Edges.beyond(0, 1)) {
            edges.due("layer " + layer, x.readings(layer, 0, 1, 1, 1, 1), -1);
        }
        for (int reader : Edges.beyond(0, 2)) {
            edges.due("reader " + reader, x.readings(1, reader, 1, 1, 1, 1), -1);
        }
        edges.due("none above 0", x.readings(1, 2, 0, 0, 0, 0), -1);
        for (int reader = 0; reader <= 2; reader++) {
            edges.due("nothing happened", x.season(0, reader, 5) + x.season(1, reader, 5), 0);
        }
        edges.due("layer 0", x.readings(0, 2, 9, 9, 9, 9), 36);
        edges.due("layer 1", x.readings(1, 2, 9, 9, 9, 9), 36);
        edges.due("layer 1 again", x.readings(1, 2, 0, 4, 0, 0), 40);
        x.note(ONE, 1, 0, 0);
        edges.due("both have all", x.season(0, 2, 5), 76);
        edges.due("none more then", x.readings(0, 2, 1, 0, 0, 0), -1);
        edges.due("nor by the other layer", x.readings(1, 2, 0, 0, 0, 1), -1);
        edges.due("still all", x.season(1, 2, 5), 76);
        edges.due("but by another reader", x.readings(1, 1, 1, 0, 0, 0), 1);
        x.strike(0);
        edges.due("parted, to 40", x.readings(0, 2, 1, 1, 1, 1), 40);
        tellsRight(x, 0, 2, 10, 10, 10, 10, 0, 40);
        tellsRight(x, 1, 2, 9, 13, 9, 9, 0, 40);
        edges.due("one more", x.readings(0, 2, 1, 0, 0, 0), -1);
    }

    private void seasonCall() {
        edges.sentence("`int season(int layer, int reader, int what)`: PUT RIGHT for the BED of a LAYER (all NOTES), what 0 .. 3: t of that SEASON, 4: MISS, 5: READINGS in all. NONE: no such ones, what, or there are more than 40 READINGS (what 0 .. 4).");
        ShellHeap x = Desks.withLayers(3);
        x.readings(0, 0, 9, 9, 9, 9);
        x.readings(0, 0, 1, 1, 1, 1);
        x.readings(1, 0, 0, 0, 0, 1);
        tellsRight(x, 0, 0, 10, 10, 10, 10, 0, 40);
        x.note(ONE, 2, 1, 0);
        x.note(ONE, 2, 0, 0);
        for (int layer = 0; layer < 3; layer++) {
            tellsRight(x, layer, 0, -1, -1, -1, -1, -1, 41);
            tellsRight(x, layer, 1, 0, 0, 0, 0, 0, 0);
        }
        x.strike(0);
        tellsRight(x, 2, 0, 10, 10, 10, 10, 0, 40);
        tellsRight(x, 1, 0, 0, 0, 0, 1, 0, 1);
        for (int layer : Edges.beyond(0, 2)) {
            edges.due("layer " + layer, x.season(layer, 0, 5), -1);
        }
        for (int reader : Edges.beyond(0, 2)) {
            edges.due("reader " + reader, x.season(0, reader, 5), -1);
        }
        for (int what : Edges.beyond(0, 5)) {
            edges.due("what " + what, x.season(0, 0, what), -1);
        }
    }

    private void stayCall() {
        edges.sentence("`int stay(int layer)`: STAY; NONE: no such LAYER, or a READER has more than 40 READINGS there.");
        edges.due("without layers", new ShellHeap().stay(0), -1);
        for (int reader = 0; reader <= 2; reader++) {
            ShellHeap x = Desks.withLayers(2);
            x.readings(0, reader, 9, 9, 9, 9);
            x.readings(0, reader, 4, 0, 0, 0);
            edges.due("40 of reader " + reader, x.stay(0), 15);
            x.readings(1, reader, 1, 0, 0, 0);
            x.note(ONE, 0, 1, 0);
            edges.due("41 of reader " + reader, x.stay(0), -1);
            edges.due("41, by the other layer", x.stay(1), -1);
            x.strike(0);
            edges.due("one alone", x.stay(1), 1);
            for (int layer : Edges.beyond(0, 1)) {
                edges.due("layer " + layer, x.stay(layer), -1);
            }
        }
        ShellHeap x = Desks.withLayers(2);
        for (int reader = 0; reader <= 2; reader++) {
            x.readings(reader % 2, reader, 9, 9, 9, 9);
            x.readings(reader % 2, reader, 1, 1, 1, 1);
        }
        x.note(ONE, 0, 1, 0);
        edges.due("120 in all, 40 by each reader", x.stay(0), 15);
    }
}
