/** New desks for the tests. */
final class Desks {
    private static final int OVER = 0;
    private static final int CUTS = 1;
    private static final int ONE = 2;
    private static final int DATE = 3;

    private Desks() {
    }

    static ShellHeap withLayers(int layers) {
        ShellHeap desk = new ShellHeap();
        for (int i = 0; i < layers; i++) {
            desk.layer();
        }
        return desk;
    }

    /** A small desk on which all has been used: nothing is as at first, a fault stands, and a text waits on the tape. */
    static ShellHeap lived() {
        ShellHeap desk = withLayers(4);
        desk.note(OVER, 1, 0, 0);
        desk.note(ONE, 3, 2, 0);
        desk.note(CUTS, 2, 1, 0);
        desk.note(DATE, 0, 100, 900);
        desk.note(DATE, 3, 50, 700);
        desk.note(DATE, 1, 800, 900);
        desk.strike(5);
        desk.heap(5, 4);
        desk.column(1, 1);
        desk.column(3, 2);
        for (int layer = 0; layer < 4; layer++) {
            desk.thick(0, layer, 11 + layer);
            desk.thick(1, layer, 40 - 3 * layer);
        }
        desk.kind(37, 2);
        desk.kind(410, 1);
        desk.kept(0, 1, 5);
        desk.kept(1, 3, 9);
        Texts.finds(desk, "k0 s1: left 8, right 3, gnawed 2; k1 s3: whole 6, burnt 1", 1);
        Texts.finds(desk, "k0 s0: whole 4; k1 s3: left 5, gnawed 7", 3);
        for (int reader = 0; reader <= 2; reader++) {
            desk.reads(reader, reader, 2, 3, 5, 6);
            desk.reads(reader, 3, 7, 1, 0, 8);
            desk.readings(reader, reader, 4, 3, 2, 1);
            desk.readings(3, reader, 1, 5, 0, 2);
        }
        desk.measure(1, 60, 9, 31);
        desk.measure(2, 48, 7, 33);
        desk.measure(3, 52, 4, 30);
        Texts.rules(desk, "cause a: size < then size; cause b: food - 1;");
        Texts.finds(desk, "k0 s9: left 1", 0);
        Texts.feed(desk, "cause q: rank + 7; cause r: 9;");
        return desk;
    }

    /** Layers 1 and 2 are one and lie over layer 0; every value of both beds is another number. */
    static ShellHeap ofTwoBeds() {
        ShellHeap desk = withLayers(3);
        desk.note(OVER, 1, 0, 0);
        desk.note(ONE, 2, 1, 0);
        desk.heap(2, 2);
        desk.column(0, 0);
        desk.column(1, 1);
        desk.thick(0, 0, 5);
        desk.thick(0, 1, 7);
        desk.thick(1, 2, 100);
        desk.kind(999, 2);
        desk.kind(100, 1);
        desk.kept(0, 0, 8);
        Texts.finds(desk, "k0 s0: whole 200, gnawed 50; k1 s0: left 1", 1);
        Texts.finds(desk, "k0 s0: whole 20, gnawed 5; k1 s0: left 2", 0);
        desk.measure(0, 60, 10, 30);
        desk.measure(1, 50, 8, 31);
        desk.readings(1, 0, 1, 0, 2, 0);
        desk.readings(2, 1, 0, 0, 0, 1);
        desk.readings(0, 1, 0, 0, 0, 1);
        return desk;
    }
}
