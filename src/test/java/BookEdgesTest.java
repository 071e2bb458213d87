import java.util.NoSuchElementException;

/** The edges of "THE BOOK" and of promises 1, 6 to 11 and 28: layers, notes, beds, ranks, spans and quarrels. */
final class BookEdgesTest {
    private static final int OVER = 0;
    private static final int CUTS = 1;
    private static final int ONE = 2;
    private static final int DATE = 3;

    private final Edges edges = new Edges();

    public static void main(String[] args) {
        BookEdgesTest test = new BookEdgesTest();
        test.atMostTwelveLayers();
        test.atMostEightyNotes();
        test.sortsOfTwoLayers();
        test.years();
        test.findsAreNotes();
        test.strikesAreNotes();
        test.firstNotes();
        test.strikesStruck();
        test.bedsByRows();
        test.laterByRows();
        test.rings();
        test.ranks();
        test.spans();
        test.spansAlongRows();
        test.quarrels();
        test.newObject();
        test.layerCall();
        test.noteCall();
        test.strikeCall();
        test.bedCall();
        test.orderCall();
        test.quarrelCall();
        test.countCall();
        test.edges.end();
    }

    private void atMostTwelveLayers() {
        edges.sentence("LAYERS, at most 12, numbered from 0 on.");
        ShellHeap x = new ShellHeap();
        for (int i = 0; i < 12; i++) {
            edges.due("not yet layer " + i, x.note(DATE, i, 0, 0), -1);
            edges.due("layer " + i, x.layer(), i);
            edges.due("layer " + i + " is there", x.bed(0, i, 0), i);
        }
        edges.due("a thirteenth", x.layer(), -1);
        edges.due("and again", x.layer(), -1);
        edges.due("twelve stay", x.count(1), 12);
        edges.due("the last one", x.note(DATE, 11, 0, 0), 0);
        edges.due("none behind it", x.note(DATE, 12, 0, 0), -1);
    }

    private static void fill(ShellHeap x, int notes) {
        for (int i = x.count(2); i < notes; i++) {
            x.note(DATE, 0, 0, 9999);
        }
    }

    /** Writes a note of a sort (4: finds, 5: a strike). */
    private static int write(ShellHeap x, int sort) {
        if (sort == 4) {
            return Texts.finds(x, "k0 s0: left 1", 0);
        }
        return sort == 5 ? x.strike(0) : x.note(sort, 0, sort == DATE ? 0 : 1, 9999);
    }

    private void atMostEightyNotes() {
        edges.sentence("NOTES, at most 80, numbered from 0 on, of a sort:");
        for (int sort = 0; sort <= 5; sort++) {
            ShellHeap x = Desks.withLayers(2);
            x.kind(1, 1);
            edges.due("the first one", x.note(DATE, 0, 0, 9999), 0);
            edges.due("the second one, of sort " + sort, write(x, sort), 1);
            fill(x, 79);
            edges.due("79 notes", x.count(2), 79);
            edges.due("the eightieth, of sort " + sort, write(x, sort), 79);
            for (int other = 0; other <= 5; other++) {
                edges.due("an 81st, of sort " + other, write(x, other), other == 4 ? -2 : -1);
                edges.due("80 stay", x.count(2), 80);
            }
            edges.due("80 are known", x.quarrel(80), 0);
            edges.due("81 are not", x.quarrel(81), -1);
        }
    }

    private void sortsOfTwoLayers() {
        edges.sentence("0 OVER: LAYER a lies over LAYER b; 1 CUTS: a (a pit) cuts b; 2 ONE: a and b are one;");
        ShellHeap x = Desks.withLayers(12);
        x.note(OVER, 11, 10, 0);
        x.note(CUTS, 0, 11, 0);
        x.note(ONE, 5, 4, 0);
        edges.due("over", x.order(3, 11, 10), 1);
        edges.due("cuts", x.order(3, 0, 11), 1);
        edges.due("one is no order", x.order(3, 5, 4), 0);
        edges.due("one is a bed", x.bed(3, 5, 0), 4);
        edges.due("over is no bed", x.bed(3, 11, 1), 1);
        edges.due("cuts is no bed", x.bed(3, 0, 1), 1);
        edges.due("nor is either a date", x.bed(3, 0, 3), 0);
    }

    private void years() {
        edges.sentence("3 DATE: what is in a was alive in a YEAR from b to c (0 .. 9999, b at most c; the greater the later);");
        ShellHeap x = Desks.withLayers(3);
        int[][] good = {{0, 0}, {0, 9999}, {9999, 9999}, {9998, 9999}, {0, 1}, {5000, 5000}};
        for (int i = 0; i < good.length; i++) {
            edges.due(good[i][0] + " to " + good[i][1], x.note(DATE, 0, good[i][0], good[i][1]), i);
        }
        int[][] bad = {{-1, 0}, {-1, -1}, {0, -1}, {1, 0}, {9999, 9998}, {9999, 10000}, {10000, 10000}, {10000, 9999},
            {0, Edges.MAX}, {Edges.MIN, 0}, {Edges.MIN, Edges.MAX}, {Edges.MAX, Edges.MIN}, {Edges.MAX, Edges.MAX}};
        for (int[] pair : bad) {
            edges.due(pair[0] + " to " + pair[1], x.note(DATE, 0, pair[0], pair[1]), -1);
        }
        edges.due("no more notes", x.count(2), good.length);
        ShellHeap y = Desks.withLayers(2);
        y.note(DATE, 1, 9999, 9999);
        y.note(DATE, 0, 0, 0);
        y.note(OVER, 1, 0, 0);
        edges.due("the greater year lies over the lesser one", y.quarrel(3), 0);
        y.note(OVER, 0, 1, 0);
        y.strike(2);
        edges.due("the lesser year does not lie over the greater one", y.quarrel(5), 2);
    }

    private void findsAreNotes() {
        edges.sentence("4 FINDS of a (below).");
        ShellHeap x = Desks.withLayers(12);
        x.kind(1, 1);
        x.note(DATE, 0, 0, 1);
        edges.due("finds are a note", Texts.finds(x, "k0 s0: left 7", 11), 1);
        edges.due("of their layer", x.eaten(11, 0, 0), 7);
        edges.due("of no other one", x.eaten(10, 0, 0), 0);
        edges.due("which is counted", x.count(2), 2);
        edges.due("and gives no order", x.bed(2, 11, 2), 0);
        edges.due("and goes by finds() alone", x.note(4, 11, 0, 0), -1);
    }

    private void strikesAreNotes() {
        edges.sentence("To STRIKE a NOTE is a NOTE, too.");
        ShellHeap x = Desks.withLayers(2);
        x.kind(1, 1);
        for (int sort = 0; sort <= 5; sort++) {
            write(x, sort);
        }
        for (int note = 0; note < 6; note++) {
            edges.due("a strike of note " + note, x.strike(note), 6 + note);
        }
        edges.due("all are counted", x.count(2), 12);
        edges.due("none of the struck counts", x.quarrel(12), 0);
        edges.due("nor do finds", x.eaten(0, 0, 0), 0);
        edges.due("a strike of a strike", x.strike(11), 12);
    }

    private void firstNotes() {
        edges.sentence("As KNOWN by n: the first n NOTES, without those STRUCK by one of these");
        ShellHeap x = Desks.withLayers(2);
        x.note(OVER, 1, 0, 0);
        x.note(ONE, 1, 0, 0);
        x.strike(0);
        x.strike(1);
        int[] orders = {0, 1, 3, 0, 0};
        int[] layers = {1, 1, 2, 2, 1};
        int[] quarrels = {0, 0, 1, 0, 0};
        for (int round = 0; round < 2; round++) {
            for (int n = round * 4; n >= 0 && n <= 4; n += 1 - 2 * round) {
                edges.due("order by " + n, x.order(n, 1, 0), orders[n]);
                edges.due("layers of a bed by " + n, x.bed(n, 0, 1), layers[n]);
                edges.due("quarrel by " + n, x.quarrel(n), quarrels[n]);
            }
        }
        edges.due("by 5", x.order(5, 1, 0), -1);
        edges.due("by -1", x.order(-1, 1, 0), -1);
        x.layer();
        edges.due("a layer that came later, by none", x.bed(0, 2, 0), 2);
        edges.due("and by all", x.bed(4, 2, 2), 0);
    }

    private void strikesStruck() {
        edges.sentence("(a STRIKE may be STRUCK: then it doesn't count; asked from the last one on): these COUNT.");
        ShellHeap x = Desks.withLayers(2);
        x.note(OVER, 1, 0, 0);
        for (int i = 1; i < 80; i++) {
            edges.due("each strikes the one before", x.strike(i - 1), i);
        }
        for (int n = 1; n <= 80; n++) {
            edges.due("a row of strikes as known by " + n, x.order(n, 1, 0), n % 2);
        }
        ShellHeap y = Desks.withLayers(2);
        y.note(OVER, 1, 0, 0);
        y.strike(0);
        y.strike(0);
        y.strike(1);
        y.strike(1);
        edges.due("one of two strikes is struck twice", y.order(5, 1, 0), 0);
        y.strike(2);
        edges.due("both are struck", y.order(6, 1, 0), 1);
        y.strike(4);
        edges.due("one of the two that strike the first is struck", y.order(7, 1, 0), 1);
        y.strike(3);
        edges.due("both of them are", y.order(8, 1, 0), 0);
    }

    private void bedsByRows() {
        edges.sentence("BEDS: LAYERS that are ONE, by rows of such, are a BED (its number: its least LAYER).");
        ShellHeap x = Desks.withLayers(12);
        for (int i = 11; i > 0; i--) {
            x.note(ONE, i % 2 == 0 ? i : i - 1, i % 2 == 0 ? i - 1 : i, 0);
        }
        for (int n = 0; n <= 11; n++) {
            edges.due("number by " + n, x.bed(n, 11, 0), 11 - n);
            edges.due("layers by " + n, x.bed(n, 11, 1), n + 1);
            edges.due("the least layer by " + n, x.bed(n, 0, 1), n == 11 ? 12 : 1);
        }
        edges.due("one bed of all", x.count(0), 1);
        int n = x.strike(5) + 1;
        edges.due("parted in the middle", x.count(0), 2);
        edges.due("below", x.bed(n, 5, 0), 0);
        edges.due("above", x.bed(n, 11, 0), 6);
        x.note(ONE, 0, 11, 0);
        edges.due("one again, by both ends", x.count(0), 1);
        x.note(ONE, 11, 0, 0);
        x.strike(n);
        edges.due("told twice, struck once", x.count(0), 1);
        ShellHeap y = Desks.withLayers(4);
        y.note(ONE, 0, 1, 0);
        y.note(ONE, 2, 3, 0);
        edges.due("two beds of two", y.count(0), 2);
        y.note(ONE, 3, 1, 0);
        edges.due("joined", y.bed(3, 2, 0), 0);
        edges.due("all four", y.bed(3, 2, 1), 4);
        edges.due("without any layer", new ShellHeap().count(0), 0);
    }

    /** A row of all layers by over and cuts in turn: upwards each lies on the one before, else the other way round. */
    private static ShellHeap row(boolean upwards) {
        ShellHeap x = Desks.withLayers(12);
        for (int i = 0; i < 11; i++) {
            x.note(i % 2 == 0 ? OVER : CUTS, upwards ? i + 1 : i, upwards ? i : i + 1, 0);
        }
        return x;
    }

    private void laterByRows() {
        edges.sentence("A BED is LATER than another one if a LAYER of it is OVER, or CUTS, one of the other, or by rows of such.");
        ShellHeap up = row(true);
        ShellHeap down = row(false);
        for (int n = 0; n <= 11; n++) {
            edges.due("the ends of a row by " + n, up.order(n, 11, 0), n == 11 ? 1 : 0);
            edges.due("turned round by " + n, up.order(n, 0, 11), n == 11 ? 2 : 0);
            edges.due("of a row downwards by " + n, down.order(n, 0, 11), n == 11 ? 1 : 0);
            edges.due("from the first on by " + n, up.order(n, n, 0), n > 0 ? 1 : 0);
        }
        up.strike(4);
        edges.due("a note of the row struck", up.order(12, 11, 0), 0);
        edges.due("a part of it", up.order(12, 11, 5), 1);
        ShellHeap x = Desks.withLayers(5);
        x.note(OVER, 4, 3, 0);
        x.note(ONE, 3, 1, 0);
        x.note(CUTS, 1, 0, 0);
        x.note(ONE, 0, 2, 0);
        edges.due("by rows that go through beds", x.order(4, 4, 2), 1);
        edges.due("before the beds were known", x.order(1, 4, 2), 0);
        edges.due("before the last was one", x.order(3, 4, 2), 0);
        edges.due("within a bed", x.order(4, 3, 1), 0);
    }

    private void rings() {
        edges.sentence("RING: some BED is LATER than itself.");
        ShellHeap up = row(true);
        edges.due("no ring yet", up.quarrel(11), 0);
        up.note(OVER, 0, 11, 0);
        edges.due("a ring of twelve", up.quarrel(12), 1);
        edges.due("each is later than each", up.order(12, 3, 8), 3);
        edges.due("and than itself", up.order(12, 0, 0), 3);
        up.strike(6);
        edges.due("opened", up.quarrel(13), 0);
        ShellHeap down = row(false);
        down.note(CUTS, 11, 0, 0);
        edges.due("a ring downwards", down.quarrel(12), 1);
        ShellHeap x = Desks.withLayers(12);
        x.note(OVER, 11, 10, 0);
        x.note(ONE, 10, 11, 0);
        edges.due("a bed over itself", x.quarrel(2), 1);
        x.strike(1);
        edges.due("it is one no more", x.quarrel(3), 0);
        ShellHeap y = Desks.withLayers(4);
        y.note(OVER, 3, 2, 0);
        y.note(OVER, 1, 0, 0);
        y.note(ONE, 3, 0, 0);
        edges.due("a row through a bed", y.quarrel(3), 0);
        y.note(ONE, 2, 1, 0);
        edges.due("a ring of two beds", y.quarrel(4), 1);
    }

    private void ranks() {
        edges.sentence("RANK of a BED (without a RING): 0 if it is LATER than none, else 1 more than the greatest of those that it is LATER than.");
        ShellHeap up = row(true);
        ShellHeap down = row(false);
        for (int i = 0; i < 12; i++) {
            edges.due("rank of " + i + " by none", up.bed(0, i, 2), 0);
            edges.due("rank of " + i + " upwards", up.bed(11, i, 2), i);
            edges.due("rank of " + i + " downwards", down.bed(11, i, 2), 11 - i);
        }
        down.strike(5);
        edges.due("rank below what is parted", down.bed(12, 6, 2), 5);
        edges.due("rank above it", down.bed(12, 0, 2), 5);
        edges.due("as known before", down.bed(11, 0, 2), 11);
        ShellHeap x = Desks.withLayers(5);
        x.note(OVER, 0, 1, 0);
        x.note(OVER, 1, 2, 0);
        x.note(OVER, 0, 3, 0);
        x.note(OVER, 0, 2, 0);
        edges.due("the greatest of those below", x.bed(4, 0, 2), 2);
        edges.due("one between", x.bed(4, 1, 2), 1);
        edges.due("on none", x.bed(4, 3, 2), 0);
        x.note(ONE, 3, 4, 0);
        x.note(OVER, 4, 1, 0);
        edges.due("by the other layer of a bed", x.bed(6, 3, 2), 2);
        edges.due("and what lies on it", x.bed(6, 0, 2), 3);
    }

    private void spans() {
        edges.sentence("SPANS (without a RING): each BED has a YEAR 0 .. 9999, in all its DATES, and at least that of each BED that it is LATER than: over all that hold, the least and the greatest YEAR of each BED.");
        ShellHeap x = Desks.withLayers(3);
        span(x, 0, 0, 0, 9999);
        span(x, 0, 2, 0, 9999);
        x.note(DATE, 0, 0, 0);
        span(x, 1, 0, 0, 0);
        span(x, 1, 1, 0, 9999);
        x.note(DATE, 2, 9999, 9999);
        span(x, 2, 2, 9999, 9999);
        x.note(DATE, 1, 100, 300);
        x.note(DATE, 1, 200, 400);
        x.note(DATE, 1, 300, 9999);
        span(x, 4, 1, 200, 300);
        span(x, 5, 1, 300, 300);
        int last = x.note(DATE, 1, 0, 299);
        edges.due("dates that have no year together", x.bed(last + 1, 1, 3), -1);
        edges.due("nor has any other bed one", x.bed(last + 1, 0, 4), -1);
        x.strike(last);
        span(x, last + 2, 1, 300, 300);
        ShellHeap y = Desks.withLayers(2);
        y.note(ONE, 0, 1, 0);
        y.note(DATE, 0, 5, 20);
        y.note(DATE, 1, 10, 30);
        span(y, 3, 0, 10, 20);
        span(y, 3, 1, 10, 20);
        y.strike(0);
        span(y, 4, 0, 5, 20);
        span(y, 4, 1, 10, 30);
    }

    private void span(ShellHeap x, int n, int layer, int least, int greatest) {
        edges.due("least of " + layer + " by " + n, x.bed(n, layer, 3), least);
        edges.due("greatest of " + layer + " by " + n, x.bed(n, layer, 4), greatest);
    }

    private void spansAlongRows() {
        ShellHeap up = row(true);
        ShellHeap down = row(false);
        for (int i = 0; i < 12; i++) {
            span(up, 11, i, 0, 9999);
        }
        up.note(DATE, 0, 4000, 9999);
        down.note(DATE, 11, 4000, 9999);
        up.note(DATE, 11, 0, 6000);
        down.note(DATE, 0, 0, 6000);
        for (int i = 0; i < 12; i++) {
            span(up, 12, i, 4000, 9999);
            span(up, 13, i, 4000, 6000);
            span(down, 12, i, 4000, 9999);
            span(down, 13, i, 4000, 6000);
        }
        up.note(DATE, 11, 4000, 4000);
        down.note(DATE, 0, 4000, 4000);
        for (int i = 0; i < 12; i++) {
            span(up, 14, i, 4000, 4000);
            span(down, 14, i, 4000, 4000);
        }
        up.note(DATE, 11, 0, 3999);
        down.note(DATE, 0, 0, 3999);
        span(up, 15, 5, -1, -1);
        span(down, 15, 5, -1, -1);
        edges.due("a year too early", up.quarrel(15), 2);
        edges.due("a year too early downwards", down.quarrel(15), 2);
        ShellHeap ends = row(true);
        ends.note(DATE, 0, 9999, 9999);
        span(ends, 12, 11, 9999, 9999);
        ends.strike(11);
        ends.note(DATE, 11, 0, 0);
        span(ends, 14, 0, 0, 0);
    }

    private void quarrels() {
        edges.sentence("QUARREL as KNOWN by n: 0 none; 1 a RING; 2 no YEARS hold.");
        ShellHeap x = Desks.withLayers(2);
        edges.due("by none", x.quarrel(0), 0);
        x.note(OVER, 1, 0, 0);
        x.note(DATE, 0, 8, 8);
        x.note(DATE, 1, 8, 8);
        edges.due("the same year", x.quarrel(3), 0);
        x.strike(2);
        x.note(DATE, 1, 7, 7);
        edges.due("the year before", x.quarrel(5), 2);
        x.note(OVER, 0, 1, 0);
        edges.due("a ring and no years: the ring", x.quarrel(6), 1);
        x.strike(5);
        edges.due("no years alone", x.quarrel(7), 2);
        x.strike(4);
        edges.due("neither", x.quarrel(8), 0);
        int[] due = {0, 0, 0, 0, 0, 2, 1, 2, 0};
        for (int n = 8; n >= 0; n--) {
            edges.due("by " + n, x.quarrel(n), due[n]);
        }
        edges.due("without layers", new ShellHeap().quarrel(0), 0);
    }

    private void newObject() {
        edges.sentence("`ShellHeap()`: No LAYERS, NOTES, COLUMNS, KINDS, RULES; an empty TAPE.");
        ShellHeap x = new ShellHeap();
        for (int what = 0; what <= 7; what++) {
            edges.due("count(" + what + ")", x.count(what), 0);
        }
        edges.due("no byte", x.rules(1), -2);
        edges.due("no layer", x.stay(0), -1);
        edges.due("no rule", x.cause(0, 0), Long.MIN_VALUE);
        edges.due("the empty tape is a text", x.rules(0), 0);
        edges.due("the first bytes", x.feed(0, 0, 0, 0, 0), 20);
        edges.due("the first layer", x.layer(), 0);
        edges.due("no kind", x.eaten(0, 0, 0), -1);
        edges.due("no column", x.holds(0, 0), -1);
        edges.due("nor one to thicken", x.thick(0, 0, 0), false);
        edges.due("no note", x.strike(0), -1);
        edges.due("no cause", x.why(0), -1);
        ShellHeap other = new ShellHeap();
        edges.due("another object has its own layers", other.count(1), 0);
        edges.due("and its own tape", other.rules(20), -2);
    }

    private void layerCall() {
        edges.sentence("`int layer()`: A LAYER: its number; NONE: there are 12.");
        ShellHeap x = Desks.withLayers(11);
        edges.due("eleven", x.count(1), 11);
        edges.due("the twelfth", x.layer(), 11);
        edges.due("one more", x.layer(), -1);
        edges.due("a new one is a bed of its own", x.count(0), 12);
    }

    private void noteCall() {
        edges.sentence("`int note(int sort, int a, int b, int c)`: A NOTE of sort 0 .. 3 (c is looked at for 3 alone): its number; NONE: no such sort, LAYERS (of 0, 1, 2 two unlike ones), YEARS, or there are 80.");
        ShellHeap x = Desks.withLayers(3);
        int[] cs = {0, -1, 10000, Edges.MIN, Edges.MAX};
        int next = 0;
        for (int sort = 0; sort <= 2; sort++) {
            for (int c : cs) {
                edges.due("sort " + sort + ", c " + c, x.note(sort, 2, 0, c), next);
                next++;
            }
        }
        for (int sort : Edges.beyond(0, 3)) {
            edges.due("sort " + sort, x.note(sort, 2, 0, 0), -1);
            edges.due("sort " + sort + " as a date", x.note(sort, 1, 1, 1), -1);
        }
        for (int sort = 0; sort <= 2; sort++) {
            for (int layer : Edges.beyond(0, 2)) {
                edges.due("sort " + sort + ", a " + layer, x.note(sort, layer, 0, 0), -1);
                edges.due("sort " + sort + ", b " + layer, x.note(sort, 0, layer, 0), -1);
                edges.due("sort " + sort + ", both " + layer, x.note(sort, layer, layer, 0), -1);
            }
            for (int layer = 0; layer < 3; layer++) {
                edges.due("sort " + sort + ", both " + layer, x.note(sort, layer, layer, 0), -1);
            }
        }
        for (int layer : Edges.beyond(0, 2)) {
            edges.due("a date of " + layer, x.note(DATE, layer, 1, 1), -1);
        }
        edges.due("a date whose b is no layer, and a itself", x.note(DATE, 1, 1, 1), next);
        edges.due("no more notes", x.count(2), next + 1);
    }

    private void strikeCall() {
        edges.sentence("`int strike(int note)`: A NOTE is STRUCK: this NOTE's number; NONE: no such one, or there are 80.");
        ShellHeap x = Desks.withLayers(2);
        for (int note : Edges.beyond(0, -1)) {
            edges.due("strike " + note + " of none", x.strike(note), -1);
        }
        edges.due("0 of none", x.strike(0), -1);
        x.note(OVER, 1, 0, 0);
        for (int note : Edges.beyond(0, 0)) {
            edges.due("strike " + note + " of one", x.strike(note), -1);
        }
        edges.due("still one", x.count(2), 1);
        edges.due("0 of one", x.strike(0), 1);
        edges.due("itself is not there yet", x.strike(2), -1);
        edges.due("the last one", x.strike(1), 2);
        fill(x, 79);
        edges.due("the eightieth", x.strike(78), 79);
        edges.due("one more", x.strike(79), -1);
    }

    private void bedCall() {
        edges.sentence("`int bed(int n, int layer, int what)`: As KNOWN by n, of a LAYER's BED, what 0: its number, 1: how many LAYERS it has, 2: RANK, 3, 4: its least, greatest YEAR (NONE in a QUARREL; RANK in a RING). -2: no such n, LAYER, what.");
        ShellHeap x = Desks.withLayers(2);
        x.note(OVER, 1, 0, 0);
        x.note(DATE, 0, 9, 9);
        x.note(DATE, 1, 8, 8);
        x.note(OVER, 0, 1, 0);
        int[][] due = {{1, 1, 0, 0, 9999}, {1, 1, 1, 0, 9999}, {1, 1, 1, 9, 9999}, {1, 1, 1, -1, -1}, {1, 1, -1, -1, -1}};
        for (int n = 0; n <= 4; n++) {
            for (int what = 0; what <= 4; what++) {
                edges.due("by " + n + ", what " + what, x.bed(n, 1, what), due[n][what]);
            }
        }
        for (int n : Edges.beyond(0, 4)) {
            edges.due("n " + n, x.bed(n, 0, 0), -2);
        }
        for (int layer : Edges.beyond(0, 1)) {
            edges.due("layer " + layer, x.bed(4, layer, 0), -2);
        }
        for (int what : Edges.beyond(0, 4)) {
            edges.due("what " + what, x.bed(4, 0, what), -2);
        }
        edges.due("without layers", new ShellHeap().bed(0, 0, 0), -2);
    }

    private void orderCall() {
        edges.sentence("`int order(int n, int a, int b)`: As KNOWN by n, of the BEDS of two LAYERS: 1 that of a is LATER, 2 that of b, 3 both (in a RING), 0 neither; NONE: no such n, LAYERS.");
        ShellHeap x = Desks.withLayers(3);
        x.note(OVER, 1, 0, 0);
        x.note(OVER, 0, 1, 0);
        edges.due("neither", x.order(0, 1, 0), 0);
        edges.due("a", x.order(1, 1, 0), 1);
        edges.due("b", x.order(1, 0, 1), 2);
        edges.due("both", x.order(2, 0, 1), 3);
        edges.due("a bed and itself", x.order(1, 1, 1), 0);
        edges.due("a bed of a ring and itself", x.order(2, 1, 1), 3);
        edges.due("a bed beside a ring and itself", x.order(2, 2, 2), 0);
        for (int n : Edges.beyond(0, 2)) {
            edges.due("n " + n, x.order(n, 1, 0), -1);
        }
        for (int layer : Edges.beyond(0, 2)) {
            edges.due("a " + layer, x.order(2, layer, 0), -1);
            edges.due("b " + layer, x.order(2, 0, layer), -1);
        }
    }

    private void quarrelCall() {
        edges.sentence("`int quarrel(int n)`: QUARREL as KNOWN by n; NONE: no such n.");
        ShellHeap x = Desks.withLayers(1);
        x.note(DATE, 0, 1, 1);
        x.note(DATE, 0, 2, 2);
        edges.due("by all", x.quarrel(2), 2);
        edges.due("by one", x.quarrel(1), 0);
        edges.due("by none", x.quarrel(0), 0);
        for (int n : Edges.beyond(0, 2)) {
            edges.due("n " + n, x.quarrel(n), -1);
        }
    }

    private void countCall() {
        edges.sentence("`int count(int what) throws NoSuchElementException`: Of all as KNOWN by all NOTES, what 0: how many BEDS, 1: LAYERS, 2: NOTES, 3: COLUMNS, 4: KINDS, 5: shells MEASURED, 6: CAUSES, 7: KNOTS of the RULES. NoSuchElementException: no such what.");
        ShellHeap x = Desks.withLayers(7);
        x.note(ONE, 5, 6, 0);
        x.note(OVER, 1, 0, 0);
        x.column(0, 0);
        x.column(1, 0);
        x.column(2, 0);
        for (int i = 0; i < 4; i++) {
            x.kind(1, 1);
            x.measure(0, 1, 1, 1);
        }
        x.measure(0, 1, 1, 1);
        Texts.rules(x, "cause a: 1 + 2 < 3; cause b: not then rank;");
        int[] due = {6, 7, 2, 3, 4, 5, 2, 8};
        for (int what = 0; what <= 7; what++) {
            edges.due("count(" + what + ")", x.count(what), due[what]);
        }
        for (int what : Edges.beyond(0, 7)) {
            edges.due("count(" + what + ") throws", throwsNone(x, what), true);
        }
        for (int what = 0; what <= 7; what++) {
            edges.due("count(" + what + ") as before", x.count(what), due[what]);
        }
        x.strike(0);
        edges.due("beds when one is none", x.count(0), 7);
        x.strike(2);
        edges.due("beds when that is struck", x.count(0), 6);
        edges.due("notes, the struck ones too", x.count(2), 4);
    }

    private static boolean throwsNone(ShellHeap x, int what) {
        try {
            x.count(what);
            return false;
        } catch (NoSuchElementException none) {
            return true;
        }
    }
}
