import java.util.NoSuchElementException;
import java.util.Random;

/** Asks ShellHeap and the plain desk the same random runs of calls: every answer must be the same. */
final class RandomRunsTest {
    private static final int RUNS = 1500;
    /** A text takes up to some fifty calls more: so a run stays within the 512 calls of an object. */
    private static final int CALLS = 460;

    private final Checks checks;
    private final Random random;
    private final RandomTexts texts;
    private final ShellHeap desk = new ShellHeap();
    private final PlainDesk plain = new PlainDesk();
    private final int run;
    /** How often, of 100 calls, a run writes of layers, of shells, of seasons and so on. */
    private final int[] weights = new int[24];
    private int calls = 0;

    private RandomRunsTest(Checks checks, int run) {
        this.checks = checks;
        this.run = run;
        random = new Random(run);
        texts = new RandomTexts(random);
        for (int i = 0; i < weights.length; i++) {
            weights[i] = random.nextInt(3) == 0 ? 12 : 1 + random.nextInt(5);
        }
        weights[2] = random.nextInt(3) == 0 ? 0 : weights[2];
        weights[6] = random.nextInt(5) == 0 ? 2 : 0;
    }

    public static void main(String[] args) {
        Checks checks = new Checks();
        for (int run = 0; run < RUNS && checks.wrongSoFar() < 20; run++) {
            new RandomRunsTest(checks, run).go();
        }
        checks.end();
    }

    private void due(String call, long got, long want) {
        calls++;
        checks.due("run " + run + ", call " + calls + ": " + call, got, want);
    }

    private static long as(boolean answer) {
        return answer ? 1 : 0;
    }

    /** 0 .. most, or now and then what lies beyond. */
    private int upTo(int most) {
        int which = random.nextInt(60);
        if (which < 4) {
            return which == 0 ? most + 1 : which == 1 ? -1 : which == 2 ? Integer.MAX_VALUE : Integer.MIN_VALUE;
        }
        return which < 8 ? Math.max(most, 0) : random.nextInt(Math.max(most, 0) + 1);
    }

    private int aLayer() {
        return upTo(plain.layersSoFar() - 1);
    }

    private int some() {
        return random.nextInt(3) == 0 ? plain.notesSoFar() : upTo(plain.notesSoFar());
    }

    private void go() {
        int first = random.nextInt(13);
        for (int i = 0; i < first; i++) {
            due("layer()", desk.layer(), plain.layer());
        }
        int total = 0;
        for (int weight : weights) {
            total += weight;
        }
        while (calls < CALLS && checks.wrongSoFar() < 20) {
            int at = random.nextInt(total);
            int which = 0;
            while (at >= weights[which]) {
                at -= weights[which];
                which++;
            }
            call(which);
        }
    }

    private void call(int which) {
        switch (which) {
            case 0 -> order();
            case 1 -> one();
            case 2 -> date();
            case 3 -> strike();
            case 4, 5 -> askBook();
            case 6 -> heap();
            case 7, 8 -> column();
            case 9 -> askHolds();
            case 10 -> kind();
            case 11, 12 -> finds();
            case 13 -> askEaten();
            case 14 -> reads();
            case 15 -> readings();
            case 16, 17 -> askSeason();
            case 18 -> measure();
            case 19 -> askMiddle();
            case 20 -> rules();
            case 21, 22 -> askCause();
            default -> askOther();
        }
    }

    private void note(int sort, int a, int b, int c) {
        due("note(" + sort + ", " + a + ", " + b + ", " + c + ")", desk.note(sort, a, b, c), plain.note(sort, a, b, c));
    }

    /** Most often the greater one is later, so that not every run is a ring. */
    private void order() {
        int a = aLayer();
        int b = aLayer();
        boolean turned = random.nextInt(12) > 0;
        note(random.nextInt(40) == 0 ? upTo(5) : random.nextInt(2), turned ? Math.max(a, b) : a,
                turned ? Math.min(a, b) : b, random.nextInt());
    }

    private void one() {
        int a = aLayer();
        note(2, a, random.nextInt(3) == 0 ? aLayer() : a + (random.nextBoolean() ? 1 : -1), random.nextInt());
    }

    private void date() {
        int layer = aLayer();
        int from = random.nextInt(8) == 0 ? upTo(9999) : upTo(2000 + 400 * Math.min(Math.max(layer, 0), 12));
        int to = random.nextInt(8) == 0 ? upTo(9999) : Math.max(0, Math.min(from, 9000)) + upTo(5000);
        note(3, layer, from, to);
    }

    private void strike() {
        int note = random.nextInt(3) == 0 ? plain.notesSoFar() - 1 : upTo(plain.notesSoFar() - 1);
        due("strike(" + note + ")", desk.strike(note), plain.strike(note));
    }

    private void askBook() {
        int n = some();
        int a = aLayer();
        int b = aLayer();
        int what = upTo(4);
        switch (random.nextInt(4)) {
            case 0 -> due("order(" + n + ", " + a + ", " + b + ")", desk.order(n, a, b), plain.order(n, a, b));
            case 1 -> due("quarrel(" + n + ")", desk.quarrel(n), plain.quarrel(n));
            default -> due("bed(" + n + ", " + a + ", " + what + ")", desk.bed(n, a, what), plain.bed(n, a, what));
        }
    }

    private void heap() {
        int w = upTo(12);
        int h = upTo(12);
        due("heap(" + w + ", " + h + ")", as(desk.heap(w, h)), as(plain.heap(w, h)));
    }

    private void column() {
        if (random.nextInt(3) == 0) {
            int x = upTo(random.nextBoolean() ? 5 : 11);
            int y = upTo(random.nextBoolean() ? 5 : 11);
            due("column(" + x + ", " + y + ")", desk.column(x, y), plain.column(x, y));
        } else {
            int column = upTo(plain.columnsSoFar() - 1);
            int layer = aLayer();
            int cm = upTo(500);
            due("thick(" + column + ", " + layer + ", " + cm + ")", as(desk.thick(column, layer, cm)),
                    as(plain.thick(column, layer, cm)));
        }
    }

    private void askHolds() {
        int layer = aLayer();
        int what = upTo(2);
        due("holds(" + layer + ", " + what + ")", desk.holds(layer, what), plain.holds(layer, what));
    }

    private void kind() {
        if (random.nextInt(3) == 0) {
            int meat = upTo(999);
            int valves = random.nextInt(10) == 0 ? upTo(2) : 1 + random.nextInt(2);
            due("kind(" + meat + ", " + valves + ")", desk.kind(meat, valves), plain.kind(meat, valves));
        } else {
            int kind = upTo(plain.kindsSoFar() - 1);
            int sieve = upTo(3);
            int of16 = upTo(16);
            due("kept(" + kind + ", " + sieve + ", " + of16 + ")", as(desk.kept(kind, sieve, of16)),
                    as(plain.kept(kind, sieve, of16)));
        }
    }

    private void feed(String text) {
        for (int from = 0; from < text.length(); from += 20) {
            int[] f = Texts.feedOf(text, from);
            due("feed", desk.feed(f[0], f[1], f[2], f[3], f[4]), plain.feed(f));
        }
    }

    private int lengthOf(String text) {
        int which = random.nextInt(40);
        return which == 0 ? upTo(700) : which == 1 ? text.length() + 21 : text.length();
    }

    private void askFault() {
        for (int what = -1; what <= 2; what++) {
            due("fault(" + what + ")", desk.fault(what), plain.fault(what));
        }
    }

    private void finds() {
        String text = texts.spoilt(texts.finds(plain.kindsSoFar()));
        feed(text);
        int n = lengthOf(text);
        int layer = aLayer();
        due("finds(" + n + ", " + layer + ") of " + text, desk.finds(n, layer), plain.finds(n, layer));
        askFault();
    }

    private void rules() {
        String text = texts.spoilt(random.nextInt(6) == 0 ? texts.longRules() : texts.rules());
        feed(text);
        int n = lengthOf(text);
        due("rules(" + n + ") of " + text, desk.rules(n), plain.rules(n));
        askFault();
        due("count(6)", desk.count(6), plain.count(6));
        due("count(7)", desk.count(7), plain.count(7));
    }

    private void askEaten() {
        int layer = aLayer();
        int kind = upTo(plain.kindsSoFar() - 1);
        int what = upTo(3);
        int aDay = random.nextBoolean() ? upTo(99999) : upTo(30);
        int of100 = upTo(100);
        if (random.nextInt(3) == 0) {
            due("days(" + layer + ", " + aDay + ", " + of100 + ")", desk.days(layer, aDay, of100),
                    plain.days(layer, aDay, of100));
        } else {
            due("eaten(" + layer + ", " + kind + ", " + what + ")", desk.eaten(layer, kind, what),
                    plain.eaten(layer, kind, what));
        }
    }

    private void reads() {
        int reader = upTo(2);
        int season = upTo(3);
        int[] row = new int[4];
        int left = 16;
        for (int j = 0; j < 3; j++) {
            row[(j + season & 3)] = random.nextInt(left + 1);
            left -= row[(j + season & 3)];
        }
        row[(3 + season & 3)] = left;
        if (random.nextInt(10) == 0) {
            row[random.nextInt(4)] = upTo(16);
        }
        due("reads(" + reader + ", " + season + ", " + java.util.Arrays.toString(row) + ")",
                as(desk.reads(reader, season, row[0], row[1], row[2], row[3])),
                as(plain.reads(reader, season, row[0], row[1], row[2], row[3])));
    }

    private void readings() {
        int layer = aLayer();
        int reader = upTo(2);
        int most = random.nextBoolean() ? 2 : 9;
        int[] row = {upTo(most), upTo(most), upTo(most), upTo(most)};
        if (random.nextInt(20) == 0) {
            row = new int[4];
        }
        due("readings(" + layer + ", " + reader + ", " + java.util.Arrays.toString(row) + ")",
                desk.readings(layer, reader, row[0], row[1], row[2], row[3]),
                plain.readings(layer, reader, row[0], row[1], row[2], row[3]));
    }

    private void askSeason() {
        int layer = aLayer();
        int reader = upTo(2);
        if (random.nextInt(3) == 0) {
            due("stay(" + layer + ")", desk.stay(layer), plain.stay(layer));
        } else {
            int what = upTo(5);
            due("season(" + layer + ", " + reader + ", " + what + ")", desk.season(layer, reader, what),
                    plain.season(layer, reader, what));
        }
    }

    private void measure() {
        int layer = aLayer();
        int size = upTo(99);
        int rings = upTo(30);
        int width = upTo(99);
        due("measure(" + layer + ", " + size + ", " + rings + ", " + width + ")",
                desk.measure(layer, size, rings, width), plain.measure(layer, size, rings, width));
    }

    private void askMiddle() {
        int layer = aLayer();
        int what = upTo(3);
        due("middle(" + layer + ", " + what + ")", desk.middle(layer, what), plain.middle(layer, what));
    }

    private void askCause() {
        int layer = aLayer();
        int k = upTo(5);
        if (random.nextInt(3) == 0) {
            due("why(" + layer + ")", desk.why(layer), plain.why(layer));
        } else {
            due("cause(" + k + ", " + layer + ")", desk.cause(k, layer), plain.cause(k, layer));
        }
    }

    private void askOther() {
        if (random.nextInt(4) == 0) {
            due("layer()", desk.layer(), plain.layer());
            return;
        }
        int what = upTo(7);
        due("count(" + what + ")", countOf(what, true), countOf(what, false));
    }

    private long countOf(int what, boolean ofDesk) {
        try {
            return ofDesk ? desk.count(what) : plain.count(what);
        } catch (NoSuchElementException none) {
            return -7;
        }
    }
}
