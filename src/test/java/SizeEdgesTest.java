/** The edges of MEASURES and of promises 24 and 25: shells measured and the middle ones of a bed. */
final class SizeEdgesTest {
    private static final int ONE = 2;

    private final Edges edges = new Edges();

    public static void main(String[] args) {
        SizeEdgesTest test = new SizeEdgesTest();
        test.marks();
        test.atMostTwoHundred();
        test.middleOfFew();
        test.middleOfMany();
        test.middleAtTheEnds();
        test.middleOfBeds();
        test.measureCall();
        test.middleCall();
        test.edges.end();
    }

    private void middles(ShellHeap x, int layer, int... due) {
        for (int what = 0; what < due.length; what++) {
            edges.due("layer " + layer + ", what " + what, x.middle(layer, what), due[what]);
        }
    }

    private void marks() {
        edges.sentence("MEASURES of a LAYER: shells of KIND 0 measured, by a size 0 .. 99 (mm), rings 0 .. 30 and how wide it was at its third ring 0 .. 99: at most 200 in all.");
        int[][] good = {{0, 0, 0}, {99, 0, 0}, {0, 30, 0}, {0, 0, 99}, {99, 30, 99}, {98, 29, 98}, {1, 1, 1}};
        for (int[] m : good) {
            ShellHeap x = Desks.withLayers(12);
            edges.due("without any kind", x.measure(11, m[0], m[1], m[2]), 1);
            middles(x, 11, m[0], m[1], m[2], 1);
            middles(x, 0, -1, -1, -1, 0);
        }
        ShellHeap x = Desks.withLayers(1);
        for (int size : Edges.beyond(0, 99)) {
            edges.due("size " + size, x.measure(0, size, 1, 1), -1);
            edges.due("width " + size, x.measure(0, 1, 1, size), -1);
        }
        for (int rings : Edges.beyond(0, 30)) {
            edges.due("rings " + rings, x.measure(0, 1, rings, 1), -1);
        }
        edges.due("none came", x.count(5), 0);
    }

    private void atMostTwoHundred() {
        ShellHeap x = Desks.withLayers(12);
        for (int i = 0; i < 199; i++) {
            edges.due("how many", x.measure(i % 12, 1, 1, 1), i + 1);
        }
        edges.due("one that is refused", x.measure(0, 100, 1, 1), -1);
        edges.due("the last one", x.measure(11, 99, 30, 99), 200);
        for (int layer = 0; layer < 12; layer++) {
            edges.due("one more", x.measure(layer, 1, 1, 1), -1);
        }
        edges.due("200 in all", x.count(5), 200);
        edges.due("of layer 0", x.middle(0, 3), 17);
        edges.due("of layer 11", x.middle(11, 3), 17);
        edges.due("of layer 10", x.middle(10, 3), 16);
    }

    private void middleOfFew() {
        edges.sentence("Of a BED: SIZE, AGE, GROWTH: the middle one of sizes, rings, widths (sorted; of an even number the lesser of both in the middle; NONE without).");
        ShellHeap x = Desks.withLayers(1);
        middles(x, 0, -1, -1, -1, 0);
        x.measure(0, 50, 20, 5);
        middles(x, 0, 50, 20, 5, 1);
        x.measure(0, 40, 30, 6);
        middles(x, 0, 40, 20, 5, 2);
        x.measure(0, 45, 0, 7);
        middles(x, 0, 45, 20, 6, 3);
        x.measure(0, 99, 1, 8);
        middles(x, 0, 45, 1, 6, 4);
        x.measure(0, 98, 2, 8);
        middles(x, 0, 50, 2, 7, 5);
    }

    private static ShellHeap halves(int low, int lows, int high, int highs) {
        ShellHeap x = Desks.withLayers(1);
        for (int i = 0; i < highs; i++) {
            x.measure(0, high, high % 31, high);
        }
        for (int i = 0; i < lows; i++) {
            x.measure(0, low, low % 31, low);
        }
        return x;
    }

    private void middleOfMany() {
        middles(halves(10, 100, 20, 100), 0, 10, 10, 10, 200);
        middles(halves(10, 99, 20, 101), 0, 20, 20, 20, 200);
        middles(halves(10, 101, 20, 99), 0, 10, 10, 10, 200);
        middles(halves(10, 100, 20, 99), 0, 10, 10, 10, 199);
        middles(halves(10, 99, 20, 100), 0, 20, 20, 20, 199);
    }

    private void middleAtTheEnds() {
        middles(halves(0, 0, 99, 200), 0, 99, 6, 99, 200);
        middles(halves(0, 200, 99, 0), 0, 0, 0, 0, 200);
        middles(halves(0, 100, 99, 100), 0, 0, 0, 0, 200);
        middles(halves(0, 99, 99, 101), 0, 99, 6, 99, 200);
        middles(halves(0, 1, 99, 1), 0, 0, 0, 0, 2);
        middles(halves(0, 1, 99, 2), 0, 99, 6, 99, 3);
        middles(halves(98, 1, 99, 2), 0, 99, 6, 99, 3);
        ShellHeap x = Desks.withLayers(1);
        x.measure(0, 0, 30, 0);
        middles(x, 0, 0, 30, 0, 1);
    }

    private void middleOfBeds() {
        ShellHeap x = Desks.withLayers(12);
        for (int layer = 0; layer < 12; layer++) {
            x.measure(layer, 90 - layer, layer, 2 * layer);
        }
        for (int layer = 1; layer < 12; layer++) {
            x.note(ONE, layer, 0, 0);
        }
        middles(x, 11, 84, 5, 10, 12);
        x.strike(10);
        middles(x, 0, 85, 5, 10, 11);
        middles(x, 11, 79, 11, 22, 1);
    }

    private void measureCall() {
        edges.sentence("`int measure(int layer, int size, int rings, int width)`: A shell MEASURED: how many in all; NONE: no such LAYER, numbers, or there are 200.");
        edges.due("without layers", new ShellHeap().measure(0, 1, 1, 1), -1);
        ShellHeap x = Desks.withLayers(2);
        edges.due("the first one", x.measure(1, 50, 10, 20), 1);
        for (int layer : Edges.beyond(0, 1)) {
            edges.due("layer " + layer, x.measure(layer, 1, 1, 1), -1);
        }
        for (int size : Edges.beyond(0, 99)) {
            edges.due("size " + size, x.measure(1, size, 1, 1), -1);
            edges.due("width " + size, x.measure(1, 1, 1, size), -1);
        }
        for (int rings : Edges.beyond(0, 30)) {
            edges.due("rings " + rings, x.measure(1, 1, rings, 1), -1);
        }
        middles(x, 1, 50, 10, 20, 1);
        middles(x, 0, -1, -1, -1, 0);
        edges.due("the second one, of all layers", x.measure(0, 1, 1, 1), 2);
        for (int i = 3; i <= 200; i++) {
            x.measure(0, 1, 1, 1);
        }
        edges.due("one more of layer 1", x.measure(1, 99, 30, 99), -1);
        middles(x, 1, 50, 10, 20, 1);
        edges.due("200", x.count(5), 200);
    }

    private void middleCall() {
        edges.sentence("`int middle(int layer, int what)`: Of the BED of a LAYER (all NOTES), what 0: SIZE, 1: AGE, 2: GROWTH (NONE without), 3: how many were MEASURED. -2: no such LAYER, what.");
        edges.due("without layers", new ShellHeap().middle(0, 3), -2);
        ShellHeap x = Desks.withLayers(2);
        middles(x, 1, -1, -1, -1, 0);
        x.measure(1, 3, 2, 1);
        for (int layer : Edges.beyond(0, 1)) {
            for (int what = 0; what <= 3; what++) {
                edges.due("layer " + layer + ", what " + what, x.middle(layer, what), -2);
            }
        }
        for (int what : Edges.beyond(0, 3)) {
            edges.due("what " + what, x.middle(1, what), -2);
            edges.due("what " + what + " of none", x.middle(0, what), -2);
        }
        x.note(ONE, 0, 1, 0);
        middles(x, 0, 3, 2, 1, 1);
        x.strike(0);
        middles(x, 0, -1, -1, -1, 0);
        x.strike(1);
        middles(x, 0, 3, 2, 1, 1);
    }
}
