/** One desk filled to every limit at once, asked up to its 512th call: what it holds is still told right then. */
final class FullDeskTest {
    private static final int CALLS = 512;

    private final Edges edges = new Edges();
    private final ShellHeap x = new ShellHeap();
    private int calls = 0;

    public static void main(String[] args) {
        FullDeskTest test = new FullDeskTest();
        test.edges.sentence("An object is used for at most 512 calls after it has been made; what later calls answer is free.");
        test.fillBook();
        test.fillHeap();
        test.fillShells();
        test.fillReadings();
        test.fillSizes();
        test.fillRules();
        test.fillTape();
        test.refuseAll();
        test.askBook();
        test.askShells();
        test.askCausesToTheEnd();
        test.edges.end();
    }

    private void due(String what, long got, long want) {
        calls++;
        edges.due("call " + calls + ", " + what, got, want);
    }

    private void due(String what, boolean got, boolean want) {
        due(what, got ? 1 : 0, want ? 1 : 0);
    }

    /** A row of twelve layers, each over the one before; 66 dates of the first, each narrower, and two strikes. */
    private void fillBook() {
        for (int i = 0; i < 12; i++) {
            due("layer", x.layer(), i);
        }
        for (int i = 0; i < 11; i++) {
            due("over", x.note(0, i + 1, i, 0), i);
        }
        for (int i = 0; i < 66; i++) {
            due("date", x.note(3, 0, i, 9999 - i), 11 + i);
        }
        due("strike of the last date", x.strike(76), 77);
        due("strike of the strike", x.strike(77), 78);
    }

    private void fillHeap() {
        due("heap", x.heap(12, 12), true);
        for (int i = 0; i < 10; i++) {
            due("column", x.column(i, 11 - i), i);
            due("thick", x.thick(i, 11, 500), true);
        }
    }

    private void fillShells() {
        for (int i = 0; i < 6; i++) {
            due("kind", x.kind(999, 1), i);
        }
        due("kept", x.kept(5, 3, 1), true);
        String text = "k5s3:whole 999;k5s3:gnawed 999;".repeat(22);
        text += " ".repeat(700 - text.length());
        feed(text);
        due("the eightieth note", x.finds(700, 11), 79);
    }

    private void feed(String text) {
        for (int from = 0; from < text.length(); from += 20) {
            int[] f = Texts.feedOf(text, from);
            due("feed", x.feed(f[0], f[1], f[2], f[3], f[4]), from + 20);
        }
    }

    private void fillReadings() {
        for (int reader = 0; reader <= 2; reader++) {
            due("readings", x.readings(11, reader, 9, 9, 9, 9), 36);
            due("readings", x.readings(11, reader, 4, 0, 0, 0), 40);
        }
    }

    private void fillSizes() {
        for (int i = 0; i < 200; i++) {
            due("measure", x.measure(11, i / 2, i % 31, 99), i + 1);
        }
    }

    private void fillRules() {
        String text = "cause a:" + "not ".repeat(81) + "size;cause b:((((((((rank))))))));"
                + "cause c:then rank;cause d:food;cause e:days*days*days;cause f:season+holds-1;";
        text += " ".repeat((20 - text.length() % 20) % 20);
        feed(text);
        due("six causes", x.rules(text.length()), 6);
        due("96 knots", x.count(7), 96);
    }

    private void fillTape() {
        int before = calls;
        feed(" ".repeat(700));
        edges.due("feeds", calls - before, 35);
    }

    private void refuseAll() {
        due("no more bytes", x.feed(0, 0, 0, 0, 0), -1);
        due("no more layers", x.layer(), -1);
        due("no more notes", x.note(0, 1, 0, 0), -1);
        due("no more strikes", x.strike(0), -1);
        due("no more finds", x.finds(700, 0), -2);
        due("no more columns", x.column(11, 11), -1);
        due("no more kinds", x.kind(1, 1), -1);
        due("no more readings", x.readings(11, 2, 0, 0, 0, 1), -1);
        due("no more shells", x.measure(0, 1, 1, 1), -1);
    }

    private void askBook() {
        int[] counts = {12, 12, 80, 10, 6, 200, 6, 96};
        for (int what = 0; what <= 7; what++) {
            due("count(" + what + ")", x.count(what), counts[what]);
        }
        due("quarrel", x.quarrel(80), 0);
        due("quarrel by none", x.quarrel(0), 0);
        due("order", x.order(80, 11, 0), 1);
        for (int layer = 0; layer < 12; layer += 11) {
            due("number", x.bed(80, layer, 0), layer);
            due("layers", x.bed(80, layer, 1), 1);
            due("rank", x.bed(80, layer, 2), layer);
        }
        due("least of the first", x.bed(80, 0, 3), 65);
        due("greatest of the first", x.bed(80, 0, 4), 9934);
        due("its last date struck", x.bed(78, 0, 3), 64);
        due("least of the last", x.bed(80, 11, 3), 65);
        due("greatest of the last", x.bed(80, 11, 4), 9999);
    }

    private void askShells() {
        due("holds", x.holds(11, 0), 72000);
        due("least", x.holds(11, 1), 72000);
        due("greatest", x.holds(0, 2), 0);
        due("least number", x.eaten(11, 5, 0), 22 * 999);
        due("righted", x.eaten(11, 5, 1), 22 * 999 * 16);
        due("food", x.eaten(11, 0, 2), 22L * 999 * 16 * 999);
        due("lost", x.eaten(11, 0, 3), 500);
        due("days", x.days(11, 99999, 100), 22L * 999 * 16 * 999 / 99999);
        due("t of 0", x.season(11, 2, 0), 13);
        due("t of 3", x.season(11, 2, 3), 9);
        due("miss", x.season(11, 2, 4), 0);
        due("readings in all", x.season(11, 2, 5), 40);
        due("stay", x.stay(11), 15);
        due("size", x.middle(11, 0), 49);
        due("age", x.middle(11, 1), 14);
        due("growth", x.middle(11, 2), 99);
        due("measured", x.middle(11, 3), 200);
    }

    private void askCausesToTheEnd() {
        long days = 22L * 999 * 16 * 999 / 20000;
        long[] worths = {0, 11, 10, 22L * 999 * 16 * 999, days * days * days, 4 + 72000 - 1};
        edges.due("calls before the last ones", calls <= CALLS - 10, true);
        while (calls < CALLS - 3) {
            int k = calls % 6;
            due("cause " + k, x.cause(k, 11), worths[k]);
        }
        due("why: more than one", x.why(11), -1);
        due("the tape is still full", x.rules(700), 0);
        due("the 512th call", x.bed(80, 11, 2), 11);
        edges.due("calls", calls, CALLS);
    }
}
