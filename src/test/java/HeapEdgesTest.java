/** The edges of "==== 2." and of promises 12 to 15: the heap, its columns and what a bed holds by them. */
final class HeapEdgesTest {
    private static final int ONE = 2;

    private final Edges edges = new Edges();

    public static void main(String[] args) {
        HeapEdgesTest test = new HeapEdgesTest();
        test.sides();
        test.firstHeap();
        test.columnsAtMostTen();
        test.thicknesses();
        test.nearest();
        test.nearestOfSeveral();
        test.holdsOfBeds();
        test.leastAndGreatest();
        test.leastAndGreatestOfMaps();
        test.leastAndGreatestOfTen();
        test.heapCall();
        test.columnCall();
        test.thickCall();
        test.holdsCall();
        test.edges.end();
    }

    private void sides() {
        edges.sentence("HEAP of W by H CELLS (2 .. 12 each; 6 by 6 at first).");
        int[] sides = {Edges.MIN, -2, -1, 0, 1, 2, 3, 11, 12, 13, 14, 18, Edges.MAX};
        for (int w : sides) {
            for (int h : sides) {
                ShellHeap x = Desks.withLayers(1);
                boolean good = w >= 2 && w <= 12 && h >= 2 && h <= 12;
                edges.due("heap(" + w + ", " + h + ")", x.heap(w, h), good);
                int right = good ? w : 6;
                int far = good ? h : 6;
                edges.due("beyond w after heap(" + w + ", " + h + ")", x.column(right, 0), -1);
                edges.due("beyond h after heap(" + w + ", " + h + ")", x.column(0, far), -1);
                edges.due("the corner after heap(" + w + ", " + h + ")", x.column(right - 1, far - 1), 0);
                x.thick(0, 0, 1);
                edges.due("cells after heap(" + w + ", " + h + ")", x.holds(0, 0), right * far);
            }
        }
    }

    private void firstHeap() {
        ShellHeap x = Desks.withLayers(1);
        edges.due("x 6 at first", x.column(6, 5), -1);
        edges.due("y 6 at first", x.column(5, 6), -1);
        edges.due("5, 5 at first", x.column(5, 5), 0);
        edges.due("0, 0 at first", x.column(0, 0), 1);
        x.thick(0, 0, 1);
        x.thick(1, 0, 1);
        edges.due("36 cells", x.holds(0, 0), 36);
    }

    private void columnsAtMostTen() {
        edges.sentence("COLUMNS, at most 10, numbered from 0 on, each at another CELL, with a thickness 0 .. 500 (cm) of each LAYER (0 at first).");
        ShellHeap x = Desks.withLayers(12);
        for (int i = 0; i < 10; i++) {
            edges.due("not yet column " + i, x.thick(i, 0, 0), false);
            edges.due("column " + i, x.column(i % 6, i / 6), i);
            edges.due("another one at its cell", x.column(i % 6, i / 6), -1);
            edges.due("are counted", x.count(3), i + 1);
        }
        edges.due("an eleventh", x.column(5, 5), -1);
        edges.due("ten stay", x.count(3), 10);
        edges.due("there is no column 10", x.thick(10, 0, 0), false);
        for (int layer = 0; layer < 12; layer++) {
            edges.due("0 at first of layer " + layer, x.holds(layer, 2), 0);
        }
        edges.due("the last layer of the last column", x.thick(9, 11, 500), true);
        edges.due("of another layer it has 0", x.holds(10, 2), 0);
        edges.due("of this one it has some", x.holds(11, 0) > 0, true);
    }

    private void thicknesses() {
        for (int layer : new int[] {0, 11}) {
            ShellHeap x = Desks.withLayers(12);
            x.heap(2, 2);
            x.column(1, 1);
            for (int cm : new int[] {0, 1, 499, 500}) {
                edges.due(cm + " cm", x.thick(0, layer, cm), true);
                edges.due("held of " + cm + " cm", x.holds(layer, 0), 4 * cm);
            }
            for (int cm : Edges.beyond(0, 500)) {
                edges.due(cm + " cm", x.thick(0, layer, cm), false);
                edges.due("500 stay", x.holds(layer, 0), 2000);
            }
        }
        ShellHeap x = Desks.withLayers(12);
        x.column(0, 0);
        for (int layer = 0; layer < 12; layer++) {
            x.thick(0, layer, 500);
        }
        x.heap(6, 6);
        x.column(0, 0);
        for (int layer = 0; layer < 12; layer++) {
            edges.due("0 again on another heap, layer " + layer, x.holds(layer, 0), 0);
        }
    }

    /** Each digit of the map is the column that is nearest to that cell; x goes along a row, y from row to row. */
    private void map(int[][] columns, String... rows) {
        ShellHeap x = Desks.withLayers(columns.length);
        int w = rows[0].length();
        edges.due("the heap", x.heap(w, rows.length), true);
        for (int i = 0; i < columns.length; i++) {
            edges.due("column " + i, x.column(columns[i][0], columns[i][1]), i);
            edges.due("layer " + i + " is in it alone", x.thick(i, i, 1), true);
        }
        for (int i = 0; i < columns.length; i++) {
            edges.due("cells of column " + i + " in " + String.join(" ", rows), x.holds(i, 0), cellsOf(i, rows));
        }
    }

    private void nearest() {
        edges.sentence("Of a LAYER a CELL has what the COLUMN has that is nearest (by the square of x and of y together; of several the least number).");
        // (0, 0) is nearer to (4, 0) by squares, 16 and 18, though not by the greater of x and y
        map(new int[][] {{4, 0}, {3, 3}}, "000000", "110000", "111110", "111111", "111111", "111111");
        // (0, 0) is nearer to (2, 2) by squares, 9 and 8, though not by x and y together
        map(new int[][] {{3, 0}, {2, 2}}, "100000", "111000", "111110", "111111", "111111", "111111");
        map(new int[][] {{0, 0}, {11, 1}}, "000000111111", "000000111111");
    }

    private void nearestOfSeveral() {
        map(new int[][] {{4, 1}, {0, 1}}, "11000", "11000", "11000");
        map(new int[][] {{0, 1}, {4, 1}}, "00011", "00011", "00011");
        map(new int[][] {{0, 0}, {2, 0}, {0, 2}, {2, 2}}, "001", "001", "223");
        map(new int[][] {{2, 2}, {0, 2}, {2, 0}, {0, 0}}, "322", "100", "100");
        map(new int[][] {{0, 0}}, "00", "00");
    }

    private void holdsOfBeds() {
        edges.sentence("HOLDS of a BED: over all CELLS what they have of its LAYERS.");
        ShellHeap x = Desks.withLayers(12);
        x.heap(12, 12);
        for (int i = 0; i < 10; i++) {
            x.column(i, 11 - i);
            for (int layer = 0; layer < 12; layer++) {
                x.thick(i, layer, 500);
            }
        }
        edges.due("one layer everywhere", x.holds(11, 0), 144 * 500);
        for (int layer = 1; layer < 12; layer++) {
            x.note(ONE, layer, layer - 1, 0);
            edges.due("layers that are one", x.holds(0, 0), (layer + 1) * 144 * 500);
        }
        edges.due("all there can be, by each layer", x.holds(11, 0), 864000);
        edges.due("and by each column left out", x.holds(5, 1), 864000);
        x.strike(10);
        edges.due("without the last layer", x.holds(0, 0), 11 * 144 * 500);
        edges.due("and this one", x.holds(11, 0), 144 * 500);
    }

    private void leastAndGreatest() {
        edges.sentence("Its LEAST and GREATEST: HOLDS if one COLUMN were not there, over all COLUMNS (with one COLUMN alone: HOLDS).");
        ShellHeap x = Desks.withLayers(3);
        x.heap(2, 2);
        x.column(0, 0);
        x.thick(0, 0, 100);
        x.thick(0, 1, 3);
        for (int what = 0; what <= 2; what++) {
            edges.due("one column alone, what " + what, x.holds(0, what), 400);
        }
        x.column(1, 1);
        // column 0 is nearest to three cells, as it goes ahead in both that are as far from 1
        held(x, 0, 300, 0, 400);
        held(x, 1, 9, 0, 12);
        held(x, 2, 0, 0, 0);
        x.thick(1, 2, 7);
        held(x, 2, 7, 0, 28);
        held(x, 0, 300, 0, 400);
        x.thick(1, 0, 100);
        held(x, 0, 400, 400, 400);
        x.note(ONE, 1, 2, 0);
        // left out 0: 7 in each cell; left out 1: 3
        held(x, 1, 9 + 7, 12, 28);
    }

    private void held(ShellHeap x, int layer, int holds, int least, int greatest) {
        edges.due("holds of " + layer, x.holds(layer, 0), holds);
        edges.due("least of " + layer, x.holds(layer, 1), least);
        edges.due("greatest of " + layer, x.holds(layer, 2), greatest);
    }

    /** The maps are those with all columns, without column 0, without column 1 and so on. */
    private void maps(int[][] columns, String[]... maps) {
        ShellHeap x = Desks.withLayers(columns.length);
        x.heap(maps[0][0].length(), maps[0].length);
        for (int i = 0; i < columns.length; i++) {
            x.column(columns[i][0], columns[i][1]);
            x.thick(i, i, 1);
        }
        for (int i = 0; i < columns.length; i++) {
            int least = Edges.MAX;
            int greatest = 0;
            for (int out = 0; out < columns.length; out++) {
                int cells = cellsOf(i, maps[out + 1]);
                least = Math.min(least, cells);
                greatest = Math.max(greatest, cells);
            }
            held(x, i, cellsOf(i, maps[0]), least, greatest);
        }
    }

    private static int cellsOf(int column, String... rows) {
        return String.join("", rows).replaceAll("[^" + column + "]", "").length();
    }

    private void leastAndGreatestOfMaps() {
        maps(new int[][] {{2, 1}, {0, 0}, {4, 2}}, new String[] {"11002", "10002", "10022"},
                new String[] {"11122", "11122", "11222"}, new String[] {"00002", "00002", "00022"},
                new String[] {"11000", "10000", "10000"});
        maps(new int[][] {{0, 0}, {2, 0}, {5, 0}, {3, 1}}, new String[] {"001122", "001332"},
                new String[] {"111122", "111332"}, new String[] {"003322", "003332"},
                new String[] {"001133", "001333"}, new String[] {"001122", "001122"});
    }

    /** Ten columns along a row of 10 by 2 cells: the cells of one left out go to the one ahead, of the first to the next. */
    private void leastAndGreatestOfTen() {
        ShellHeap x = Desks.withLayers(4);
        x.heap(10, 2);
        for (int i = 0; i < 10; i++) {
            x.column(i, 1);
            x.thick(i, 0, 10 * i);
            x.thick(i, 1, 90 - 10 * i);
        }
        x.thick(9, 2, 500);
        x.thick(0, 3, 500);
        held(x, 0, 900, 880, 920);
        held(x, 1, 900, 880, 920);
        held(x, 2, 1000, 0, 1000);
        held(x, 3, 1000, 0, 2000);
        held(x, 0, 900, 880, 920);
    }

    private void heapCall() {
        edges.sentence("`boolean heap(int w, int h)`: Another HEAP, no COLUMNS: true; false: no such W, H.");
        ShellHeap x = Desks.withLayers(2);
        for (int i = 0; i < 10; i++) {
            x.column(i % 5, i / 5);
            x.thick(i, 1, 10);
        }
        edges.due("refused", x.heap(1, 12), false);
        edges.due("refused", x.heap(12, 13), false);
        edges.due("ten columns stay", x.count(3), 10);
        edges.due("and what they have", x.holds(1, 0), 360);
        edges.due("the same heap anew", x.heap(6, 6), true);
        edges.due("no columns", x.count(3), 0);
        edges.due("nothing to hold", x.holds(1, 0), -1);
        edges.due("none to thicken", x.thick(0, 0, 1), false);
        edges.due("the same cell may be drawn", x.column(0, 0), 0);
        edges.due("layers stay", x.count(1), 2);
        edges.due("nothing in it", x.holds(1, 0), 0);
        edges.due("the greatest", x.heap(12, 12), true);
        for (int i = 0; i < 10; i++) {
            edges.due("ten again", x.column(11 - i, 11), i);
        }
        edges.due("the least", x.heap(2, 2), true);
        for (int i = 0; i < 4; i++) {
            edges.due("all four cells", x.column(i % 2, i / 2), i);
        }
        edges.due("no fifth", x.column(0, 0), -1);
    }

    private void columnCall() {
        edges.sentence("`int column(int x, int y)`: A COLUMN: its number; NONE: no such CELL, there is one, or there are 10.");
        ShellHeap x = Desks.withLayers(1);
        x.heap(3, 4);
        for (int beyond : Edges.beyond(0, 2)) {
            edges.due("x " + beyond, x.column(beyond, 0), -1);
        }
        for (int beyond : Edges.beyond(0, 3)) {
            edges.due("y " + beyond, x.column(0, beyond), -1);
        }
        edges.due("none came", x.count(3), 0);
        int next = 0;
        for (int y = 0; y < 4; y++) {
            for (int at = 0; at < 3; at++) {
                edges.due("column " + next, x.column(at, y), next < 10 ? next : -1);
                edges.due("there is one, or there are 10", x.column(at, y), -1);
                next++;
            }
        }
        edges.due("ten in all", x.count(3), 10);
    }

    private void thickCall() {
        edges.sentence("`boolean thick(int column, int layer, int cm)`: What a COLUMN has of a LAYER: true; false: no such ones.");
        ShellHeap x = Desks.withLayers(2);
        edges.due("no column yet", x.thick(0, 0, 1), false);
        x.heap(2, 2);
        x.column(0, 0);
        x.column(1, 1);
        x.thick(0, 1, 10);
        x.thick(1, 1, 20);
        for (int column : Edges.beyond(0, 1)) {
            edges.due("column " + column, x.thick(column, 1, 1), false);
        }
        for (int layer : Edges.beyond(0, 1)) {
            edges.due("layer " + layer, x.thick(1, layer, 1), false);
        }
        for (int cm : Edges.beyond(0, 500)) {
            edges.due(cm + " cm", x.thick(1, 1, cm), false);
        }
        edges.due("all stays", x.holds(1, 0), 50);
        edges.due("nothing of the other layer", x.holds(0, 2), 0);
        edges.due("the last of both", x.thick(1, 1, 30), true);
        edges.due("told anew, not more", x.holds(1, 0), 60);
        edges.due("and told away", x.thick(0, 1, 0), true);
        edges.due("what remains", x.holds(1, 0), 30);
    }

    private void holdsCall() {
        edges.sentence("`int holds(int layer, int what)`: Of the BED of a LAYER (all NOTES), what 0: HOLDS, 1: LEAST, 2: GREATEST. NONE: no such LAYER, what, or no COLUMNS.");
        ShellHeap x = Desks.withLayers(2);
        for (int what = 0; what <= 2; what++) {
            edges.due("no columns, what " + what, x.holds(0, what), -1);
        }
        x.column(0, 0);
        x.thick(0, 0, 1);
        x.thick(0, 1, 2);
        for (int layer : Edges.beyond(0, 1)) {
            edges.due("layer " + layer, x.holds(layer, 0), -1);
        }
        for (int what : Edges.beyond(0, 2)) {
            edges.due("what " + what, x.holds(0, what), -1);
        }
        edges.due("a layer alone", x.holds(1, 0), 72);
        x.note(ONE, 0, 1, 0);
        edges.due("its bed", x.holds(1, 0), 108);
        x.strike(0);
        x.strike(1);
        edges.due("its bed by all notes", x.holds(0, 2), 108);
        x.strike(2);
        edges.due("by one note more", x.holds(0, 2), 36);
    }
}
