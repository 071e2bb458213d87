/** Promises 12 to 15 and 20 to 25: columns, seasons and sizes, with answers worked out by hand from the document. */
final class HeapPromisesTest {
    private static final int MIN = Integer.MIN_VALUE;
    private static final int MAX = Integer.MAX_VALUE;

    private final Checks checks = new Checks();

    public static void main(String[] args) {
        HeapPromisesTest test = new HeapPromisesTest();
        test.heaps();
        test.columns();
        test.thickness();
        test.holds();
        test.readerRows();
        test.readings();
        test.seasons();
        test.leastOfSeveral();
        test.stays();
        test.measures();
        test.middles();
        test.checks.end();
    }

    private void heaps() {
        ShellHeap x = Desks.withLayers(1);
        for (int side : new int[] {1, 13, 0, -1, MIN, MAX}) {
            checks.due("12: no such w " + side, x.heap(side, 5), false);
            checks.due("12: no such h " + side, x.heap(5, side), false);
        }
        x.column(5, 5);
        checks.due("12: refused", x.heap(1, 1), false);
        checks.due("12: columns stay then", x.count(3), 1);
        checks.due("12: the least", x.heap(2, 2), true);
        checks.due("12: no columns then", x.count(3), 0);
        checks.due("12: outside", x.column(2, 1), -1);
        checks.due("12: the greatest", x.heap(12, 12), true);
        checks.due("12: its corner", x.column(11, 11), 0);
        x.thick(0, 0, 7);
        checks.due("12: laid anew", x.heap(3, 2), true);
        checks.due("12: w is along x", x.column(2, 1), 0);
        checks.due("12: h is along y", x.column(1, 2), -1);
        checks.due("12: a new column has nothing", x.holds(0, 0), 0);
    }

    private void columns() {
        ShellHeap x = new ShellHeap();
        checks.due("13: x below 0", x.column(-1, 0), -1);
        checks.due("13: y below 0", x.column(0, -1), -1);
        checks.due("13: x beyond", x.column(6, 0), -1);
        checks.due("13: y beyond", x.column(0, 6), -1);
        checks.due("13: the first", x.column(3, 2), 0);
        checks.due("13: there is one", x.column(3, 2), -1);
        checks.due("13: turned round", x.column(2, 3), 1);
        for (int i = 2; i < 10; i++) {
            checks.due("13: up to 10", x.column(i % 6, i / 6 * 5), i);
        }
        checks.due("13: an eleventh", x.column(5, 1), -1);
    }

    private void thickness() {
        ShellHeap x = Desks.withLayers(2);
        checks.due("14: no column", x.thick(0, 0, 1), false);
        x.column(0, 0);
        checks.due("14: 0", x.thick(0, 1, 0), true);
        checks.due("14: 500", x.thick(0, 1, 500), true);
        checks.due("14: 501", x.thick(0, 1, 501), false);
        checks.due("14: -1", x.thick(0, 1, -1), false);
        checks.due("14: no such layer", x.thick(0, 2, 1), false);
        checks.due("14: layer below 0", x.thick(0, -1, 1), false);
        checks.due("14: no such column", x.thick(1, 0, 1), false);
        checks.due("14: column below 0", x.thick(-1, 0, 1), false);
        checks.due("15: 500 in 36 cells", x.holds(1, 0), 18000);
        checks.due("14: told anew", x.thick(0, 1, 3), true);
        checks.due("15: 3 in 36 cells", x.holds(1, 0), 108);
    }

    /** Of 3 by 2 cells columns 0 and 1 at the ends of the lower row have 2 each; the middle is the least number's. */
    private void holds() {
        ShellHeap x = Desks.withLayers(3);
        x.heap(3, 2);
        checks.due("15: no columns", x.holds(0, 0), -1);
        x.column(0, 0);
        x.thick(0, 0, 10);
        checks.due("15: alone", x.holds(0, 0), 60);
        checks.due("15: alone, least", x.holds(0, 1), 60);
        checks.due("15: alone, greatest", x.holds(0, 2), 60);
        x.column(2, 0);
        x.thick(1, 0, 1);
        checks.due("15: the middle is the first one's", x.holds(0, 0), 42);
        checks.due("15: without the first", x.holds(0, 1), 6);
        checks.due("15: without the second", x.holds(0, 2), 60);
        x.column(1, 1);
        x.thick(2, 0, 100);
        // (0,0) 10, (1,0) 100 ((1,1) and both ends are 1 away: the first one), so (1,0) 10; (2,0) 1; (0,1) 10; (1,1) 100; (2,1) 1
        checks.due("15: three columns", x.holds(0, 0), 10 + 10 + 1 + 10 + 100 + 1);
        // without 0: (0,0) 2 away from 2, 4 from 1: 100; (1,0): 1; (2,0) 1; (0,1) 100; (1,1) 100; (2,1) 1
        // without 1: (2,0) 100, (2,1) 100; without 2: 42
        checks.due("15: least of three", x.holds(0, 1), 42);
        checks.due("15: greatest of three", x.holds(0, 2), 330);
        x.thick(2, 2, 4);
        x.note(2, 0, 2, 0);
        checks.due("15: of a bed", x.holds(2, 0), 132 + 4);
        checks.due("15: of another layer", x.holds(1, 0), 0);
        checks.due("15: no such layer", x.holds(3, 0), -1);
        checks.due("15: layer below 0", x.holds(-1, 0), -1);
        checks.due("15: no such what", x.holds(0, 3), -1);
        checks.due("15: what below 0", x.holds(0, -1), -1);
    }

    private void readerRows() {
        ShellHeap x = Desks.withLayers(1);
        checks.due("20: a row", x.reads(2, 3, 4, 4, 4, 4), true);
        checks.due("20: a row of one", x.reads(0, 1, 0, 0, 16, 0), true);
        checks.due("20: no such reader", x.reads(3, 0, 16, 0, 0, 0), false);
        checks.due("20: reader below 0", x.reads(-1, 0, 16, 0, 0, 0), false);
        checks.due("20: no such season", x.reads(0, 4, 16, 0, 0, 0), false);
        checks.due("20: season below 0", x.reads(0, -1, 16, 0, 0, 0), false);
        checks.due("20: 15 together", x.reads(0, 0, 15, 0, 0, 0), false);
        checks.due("20: 17 together", x.reads(0, 0, 16, 1, 0, 0), false);
        checks.due("20: below 0", x.reads(0, 0, 17, -1, 0, 0), false);
        checks.due("20: 16 by going round", x.reads(0, 0, MAX, MAX, 18, 0), false);
        x.readings(0, 0, 0, 0, 3, 0);
        checks.due("20: told 2, so it may be 1, the lesser t of 0 and then of 1", x.season(0, 0, 1), 0);
        checks.due("20: the lesser t of 1 leaves 2", x.season(0, 0, 2), 3);
    }

    private void readings() {
        ShellHeap x = Desks.withLayers(3);
        checks.due("21: no such layer", x.readings(3, 0, 1, 0, 0, 0), -1);
        checks.due("21: layer below 0", x.readings(-1, 0, 1, 0, 0, 0), -1);
        checks.due("21: no such reader", x.readings(0, 3, 1, 0, 0, 0), -1);
        checks.due("21: reader below 0", x.readings(0, -1, 1, 0, 0, 0), -1);
        checks.due("21: none above 0", x.readings(0, 0, 0, 0, 0, 0), -1);
        checks.due("21: below 0", x.readings(0, 0, 3, -1, 0, 0), -1);
        for (int i = 0; i < 4; i++) {
            int[] row = new int[4];
            row[i] = 10;
            checks.due("21: 10 at a time", x.readings(0, 0, row[0], row[1], row[2], row[3]), -1);
        }
        checks.due("21: nothing happened", x.season(0, 0, 5), 0);
        checks.due("21: 9 at a time", x.readings(0, 0, 9, 9, 9, 9), 36);
        checks.due("21: 41", x.readings(0, 0, 5, 0, 0, 0), -1);
        checks.due("21: 36 stay", x.season(0, 0, 5), 36);
        checks.due("21: 40", x.readings(0, 0, 0, 4, 0, 0), 40);
        checks.due("21: another reader", x.readings(0, 1, 0, 4, 0, 0), 4);
        checks.due("21: another layer", x.readings(1, 0, 0, 4, 0, 0), 4);
        x.note(2, 0, 1, 0);
        checks.due("21: the bed has 44", x.season(1, 0, 5), 44);
        checks.due("21: so none may come", x.readings(1, 0, 1, 0, 0, 0), -1);
        checks.due("21: but by another reader", x.readings(1, 1, 1, 0, 0, 0), 5);
        x.strike(0);
        checks.due("21: parted again", x.readings(1, 0, 1, 0, 0, 0), 5);
    }

    private void seasons() {
        ShellHeap x = Desks.withLayers(2);
        checks.due("22: no readings", x.season(0, 0, 3), 0);
        checks.due("22: no miss", x.season(0, 0, 4), 0);
        x.readings(0, 1, 1, 2, 3, 4);
        for (int i = 0; i < 4; i++) {
            checks.due("22: as told", x.season(0, 1, i), i + 1);
        }
        checks.due("22: no miss at first", x.season(0, 1, 4), 0);
        checks.due("22: in all", x.season(0, 1, 5), 10);
        checks.due("22: no such what", x.season(0, 1, 6), -1);
        checks.due("22: what below 0", x.season(0, 1, -1), -1);
        checks.due("22: no such reader", x.season(0, 3, 0), -1);
        checks.due("22: reader below 0", x.season(0, -1, 0), -1);
        checks.due("22: no such layer", x.season(2, 0, 0), -1);
        checks.due("22: layer below 0", x.season(-1, 0, 0), -1);
        // half of those of 3 are told as 2: 4 told as 2 and 4 as 3 are 8 of 3
        ShellHeap y = Desks.withLayers(1);
        y.reads(0, 3, 0, 0, 8, 8);
        y.readings(0, 0, 0, 0, 4, 4);
        checks.due("22: none of 2", y.season(0, 0, 2), 0);
        checks.due("22: all of 3", y.season(0, 0, 3), 8);
        checks.due("22: no miss then", y.season(0, 0, 4), 0);
        y.readings(0, 0, 0, 0, 0, 1);
        // 4 and 5 told: of t3 = 9 the gaps are 64 - 72 and 80 - 72, so 128; t2 = 1 gives 64 - 16 - 64 and 80 - 64, so 512
        checks.due("22: a miss", y.season(0, 0, 4), 128);
        checks.due("22: all of 3 again", y.season(0, 0, 3), 9);
        y.layer();
        y.readings(1, 0, 9, 9, 9, 9);
        y.note(2, 0, 1, 0);
        checks.due("22: 45 by a later note", y.season(0, 0, 5), 45);
        for (int what = 0; what < 5; what++) {
            checks.due("22: too many", y.season(0, 0, what), -1);
        }
        checks.due("22: another reader", y.season(0, 1, 0), 0);
    }

    /** Where a reader tells two seasons alike, any parting of them is as good: the lesser t goes ahead. */
    private void leastOfSeveral() {
        ShellHeap x = Desks.withLayers(1);
        for (int i = 0; i < 4; i++) {
            x.reads(0, i, 4, 4, 4, 4);
        }
        x.readings(0, 0, 5, 0, 0, 0);
        int[] due = {0, 0, 0, 5, 3 * 20 * 20 + 60 * 60};
        for (int what = 0; what < 5; what++) {
            checks.due("22: all alike, what " + what, x.season(0, 0, what), due[what]);
        }
        x.reads(1, 1, 0, 0, 16, 0);
        x.reads(1, 2, 0, 16, 0, 0);
        x.readings(0, 1, 0, 3, 1, 0);
        checks.due("22: 1 and 2 turned round, 1", x.season(0, 1, 1), 1);
        checks.due("22: 1 and 2 turned round, 2", x.season(0, 1, 2), 3);
        // readers of 2 and 3 tell 12 : 4 and 4 : 12; one told of each: 1 and 1
        x.reads(2, 2, 0, 0, 12, 4);
        x.reads(2, 3, 0, 0, 4, 12);
        x.readings(0, 2, 0, 0, 3, 1);
        checks.due("22: t of 2", x.season(0, 2, 2), 4);
        checks.due("22: t of 3", x.season(0, 2, 3), 0);
        x.readings(0, 2, 0, 0, 0, 1);
        // told 3 and 2: t2 = 3 gives 48 - 44 and 32 - 36: 32; t2 = 4 gives 48 - 52 and 32 - 28: 32: the lesser one
        checks.due("22: two as good", x.season(0, 2, 4), 32);
        checks.due("22: the lesser ahead", x.season(0, 2, 2), 3);
    }

    private void stays() {
        ShellHeap x = Desks.withLayers(2);
        checks.due("23: none", x.stay(0), 0);
        checks.due("23: no such layer", x.stay(2), -1);
        checks.due("23: layer below 0", x.stay(-1), -1);
        x.readings(0, 0, 1, 0, 0, 0);
        x.readings(0, 2, 0, 0, 0, 1);
        checks.due("23: of all readers", x.stay(0), 1 + 8);
        checks.due("23: of another layer", x.stay(1), 0);
        x.reads(2, 1, 0, 0, 0, 16);
        checks.due("23: of two as good the lesser t of 1", x.stay(0), 1 + 8);
        x.reads(2, 3, 16, 0, 0, 0);
        checks.due("23: put right", x.stay(0), 1 + 2);
        x.readings(1, 1, 9, 9, 9, 9);
        checks.due("23: of all seasons", x.stay(1), 15);
        x.readings(0, 1, 9, 0, 0, 0);
        x.note(2, 0, 1, 0);
        checks.due("23: a reader has too many", x.stay(0), -1);
    }

    private void measures() {
        ShellHeap x = Desks.withLayers(1);
        checks.due("24: no such layer", x.measure(1, 1, 1, 1), -1);
        checks.due("24: layer below 0", x.measure(-1, 1, 1, 1), -1);
        checks.due("24: size", x.measure(0, 100, 1, 1), -1);
        checks.due("24: size below 0", x.measure(0, -1, 1, 1), -1);
        checks.due("24: rings", x.measure(0, 1, 31, 1), -1);
        checks.due("24: rings below 0", x.measure(0, 1, -1, 1), -1);
        checks.due("24: width", x.measure(0, 1, 1, 100), -1);
        checks.due("24: width below 0", x.measure(0, 1, 1, -1), -1);
        checks.due("24: the least", x.measure(0, 0, 0, 0), 1);
        checks.due("24: the greatest", x.measure(0, 99, 30, 99), 2);
        for (int i = 3; i <= 200; i++) {
            checks.due("24: up to 200", x.measure(0, 50, 10, 20), i);
        }
        checks.due("24: one more", x.measure(0, 50, 10, 20), -1);
        checks.due("25: 200 of the bed", x.middle(0, 3), 200);
    }

    private void middles() {
        ShellHeap x = Desks.withLayers(2);
        for (int what = 0; what < 3; what++) {
            checks.due("25: none", x.middle(0, what), -1);
        }
        checks.due("25: none measured", x.middle(0, 3), 0);
        checks.due("25: no such layer", x.middle(2, 0), -2);
        checks.due("25: layer below 0", x.middle(-1, 0), -2);
        checks.due("25: no such what", x.middle(0, 4), -2);
        checks.due("25: what below 0", x.middle(0, -1), -2);
        x.measure(0, 70, 0, 99);
        x.measure(0, 10, 30, 0);
        checks.due("25: of two the lesser", x.middle(0, 0), 10);
        checks.due("25: age of two", x.middle(0, 1), 0);
        checks.due("25: growth of two", x.middle(0, 2), 0);
        x.measure(0, 10, 30, 98);
        checks.due("25: size of three", x.middle(0, 0), 10);
        checks.due("25: age of three", x.middle(0, 1), 30);
        checks.due("25: growth of three", x.middle(0, 2), 98);
        x.measure(1, 90, 20, 1);
        x.note(2, 1, 0, 0);
        checks.due("25: of a bed", x.middle(1, 0), 10);
        checks.due("25: age of a bed", x.middle(1, 1), 20);
        checks.due("25: growth of a bed", x.middle(0, 2), 1);
        checks.due("25: measured of a bed", x.middle(0, 3), 4);
        x.strike(0);
        checks.due("25: parted again", x.middle(1, 0), 90);
    }
}
