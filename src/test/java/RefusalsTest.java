import java.util.NoSuchElementException;

/**
 * Every call that the document refuses, and every call that only asks, on a desk that has lived: it answers as it must,
 * and leaves all as it was, which a second desk tells that was not asked.
 */
final class RefusalsTest {
    private interface Call {
        long on(ShellHeap desk);
    }

    /** What a desk has gone through behind Desks.lived(), so that two desks can be made alike. */
    private interface Life {
        void live(ShellHeap desk);
    }

    private final Edges edges = new Edges();
    private Life life = desk -> { };
    private String untouched = "";

    public static void main(String[] args) {
        RefusalsTest test = new RefusalsTest();
        test.begin(desk -> { });
        test.printsTellDesksApart();
        test.texts();
        test.book();
        test.heap();
        test.shells();
        test.readers();
        test.readings();
        test.sizes();
        test.causes();
        test.counts();
        test.asking();
        test.fullTape();
        test.fullBook();
        test.fullLayers();
        test.fullColumns();
        test.fullKinds();
        test.fullReadings();
        test.fullSizes();
        test.edges.end();
    }

    private ShellHeap desk() {
        ShellHeap desk = Desks.lived();
        life.live(desk);
        return desk;
    }

    private void begin(Life next) {
        life = next;
        untouched = Prints.of(desk());
    }

    private void refused(String what, long due, Call call) {
        ShellHeap desk = desk();
        edges.due(what, call.on(desk), due);
        edges.same("all stays after " + what, Prints.of(desk), untouched);
    }

    private static long as(boolean answer) {
        return answer ? 1 : 0;
    }

    /** Each call that writes something must be seen by a print, else a print would show nothing. */
    private void printsTellDesksApart() {
        edges.sentence("Nothing is promised beyond the answers and state changes described above, and nothing about an object after its 512th call.");
        Call[] writing = {x -> x.feed(0, 0, 0, 0, 0), x -> x.rules(0), x -> x.finds(0, 0), x -> x.layer(), x -> x.note(0, 0, 3, 0),
            x -> x.note(2, 0, 3, 0), x -> x.note(3, 2, 200, 300), x -> x.strike(0), x -> as(x.heap(5, 5)), x -> x.column(0, 0),
            x -> as(x.thick(1, 2, 0)), x -> x.kind(0, 1), x -> as(x.kept(1, 3, 1)), x -> as(x.reads(2, 2, 16, 0, 0, 0)),
            x -> x.readings(3, 2, 0, 0, 0, 1), x -> x.measure(0, 1, 1, 1)};
        for (int i = 0; i < writing.length; i++) {
            ShellHeap desk = desk();
            writing[i].on(desk);
            edges.due("a print shows writing call " + i, Prints.of(desk).equals(untouched), false);
        }
        edges.due("and is the same for desks that lived alike", Prints.of(desk()).equals(untouched), true);
    }

    private void texts() {
        edges.sentence("-2, and the TAPE stays: there are not so many, n is below 0.");
        for (int n : Edges.beyond(0, 40)) {
            refused("rules(" + n + ")", -2, x -> x.rules(n));
        }
        edges.sentence("-2, and the TAPE stays: as above, no such LAYER, or there are 80.");
        for (int n : Edges.beyond(0, 40)) {
            refused("finds(" + n + ", 0)", -2, x -> x.finds(n, 0));
        }
        for (int layer : Edges.beyond(0, 3)) {
            refused("finds(40, " + layer + ")", -2, x -> x.finds(40, layer));
            refused("finds(0, " + layer + ")", -2, x -> x.finds(0, layer));
        }
        edges.sentence("NONE for another what.");
        for (int what : Edges.beyond(0, 1)) {
            refused("fault(" + what + ")", -1, x -> x.fault(what));
        }
    }

    private void book() {
        edges.sentence("NONE: no such sort, LAYERS (of 0, 1, 2 two unlike ones), YEARS, or there are 80.");
        for (int sort : Edges.beyond(0, 3)) {
            refused("note of sort " + sort, -1, x -> x.note(sort, 1, 0, 0));
        }
        for (int sort = 0; sort <= 3; sort++) {
            int of = sort;
            for (int layer : Edges.beyond(0, 3)) {
                refused("note " + of + " of " + layer, -1, x -> x.note(of, layer, 1, 2));
                if (of < 3) {
                    refused("note " + of + " with " + layer, -1, x -> x.note(of, 1, layer, 2));
                }
            }
        }
        for (int sort = 0; sort <= 2; sort++) {
            int of = sort;
            refused("note " + of + " of a layer and itself", -1, x -> x.note(of, 3, 3, 0));
        }
        for (int year : Edges.beyond(0, 9999)) {
            refused("a date from " + year, -1, x -> x.note(3, 0, year, 9999));
            refused("a date to " + year, -1, x -> x.note(3, 0, 0, year));
        }
        refused("a date turned round", -1, x -> x.note(3, 0, 1, 0));
        edges.sentence("NONE: no such one, or there are 80.");
        for (int note : Edges.beyond(0, 8)) {
            refused("strike(" + note + ")", -1, x -> x.strike(note));
        }
    }

    private void heap() {
        edges.sentence("false: no such W, H.");
        for (int side : Edges.beyond(2, 12)) {
            refused("heap(" + side + ", 4)", 0, x -> as(x.heap(side, 4)));
            refused("heap(4, " + side + ")", 0, x -> as(x.heap(4, side)));
        }
        edges.sentence("NONE: no such CELL, there is one, or there are 10.");
        for (int at : Edges.beyond(0, 4)) {
            refused("column(" + at + ", 0)", -1, x -> x.column(at, 0));
        }
        for (int at : Edges.beyond(0, 3)) {
            refused("column(0, " + at + ")", -1, x -> x.column(0, at));
        }
        refused("where column 0 is", -1, x -> x.column(1, 1));
        refused("where column 1 is", -1, x -> x.column(3, 2));
        edges.sentence("What a COLUMN has of a LAYER: true; false: no such ones.");
        for (int column : Edges.beyond(0, 1)) {
            refused("thick of column " + column, 0, x -> as(x.thick(column, 0, 0)));
        }
        for (int layer : Edges.beyond(0, 3)) {
            refused("thick of layer " + layer, 0, x -> as(x.thick(0, layer, 0)));
        }
        for (int cm : Edges.beyond(0, 500)) {
            refused("thick of " + cm + " cm", 0, x -> as(x.thick(0, 0, cm)));
        }
    }

    private void shells() {
        edges.sentence("NONE: no such MEAT, VALVES, or there are 6.");
        for (int meat : Edges.beyond(0, 999)) {
            refused("kind of meat " + meat, -1, x -> x.kind(meat, 1));
        }
        for (int valves : Edges.beyond(1, 2)) {
            refused("kind of valves " + valves, -1, x -> x.kind(1, valves));
        }
        edges.sentence("KEPT: true; false: no such ones.");
        for (int kind : Edges.beyond(0, 1)) {
            refused("kept of kind " + kind, 0, x -> as(x.kept(kind, 1, 1)));
        }
        for (int sieve : Edges.beyond(0, 3)) {
            refused("kept by sieve " + sieve, 0, x -> as(x.kept(0, sieve, 1)));
        }
        for (int of16 : Edges.beyond(1, 16)) {
            refused("kept of 16 " + of16, 0, x -> as(x.kept(0, 1, of16)));
        }
    }

    private void readers() {
        edges.sentence("true; false: no such ones, not 16 together.");
        for (int reader : Edges.beyond(0, 2)) {
            refused("reads of reader " + reader, 0, x -> as(x.reads(reader, 0, 16, 0, 0, 0)));
        }
        for (int season : Edges.beyond(0, 3)) {
            refused("reads of season " + season, 0, x -> as(x.reads(0, season, 16, 0, 0, 0)));
        }
        for (int many : Edges.beyond(0, 16)) {
            refused("reads as 0: " + many, 0, x -> as(x.reads(0, 0, many, 16 - many, 0, 0)));
            refused("reads as 3: " + many, 0, x -> as(x.reads(0, 0, 0, 0, 16 - many, many)));
        }
        for (int many : new int[] {14, 15, 17, 18}) {
            refused("reads " + many + " in all", 0, x -> as(x.reads(0, 0, many - 8, 4, 2, 2)));
        }
    }

    private void readings() {
        edges.sentence("NONE, and nothing happens: no such ones, none of a, b, c, d above 0, or it would be more than 40.");
        for (int layer : Edges.beyond(0, 3)) {
            refused("readings of layer " + layer, -1, x -> x.readings(layer, 0, 1, 1, 1, 1));
        }
        for (int reader : Edges.beyond(0, 2)) {
            refused("readings of reader " + reader, -1, x -> x.readings(0, reader, 1, 1, 1, 1));
        }
        for (int many : Edges.beyond(0, 9)) {
            refused("readings as 0: " + many, -1, x -> x.readings(0, 0, many, 1, 1, 1));
            refused("readings as 1: " + many, -1, x -> x.readings(0, 0, 1, many, 1, 1));
            refused("readings as 2: " + many, -1, x -> x.readings(0, 0, 1, 1, many, 1));
            refused("readings as 3: " + many, -1, x -> x.readings(0, 0, 1, 1, 1, many));
        }
        refused("no readings", -1, x -> x.readings(0, 0, 0, 0, 0, 0));
        refused("46 readings", -1, x -> x.readings(0, 0, 9, 9, 9, 9));
    }

    private void sizes() {
        edges.sentence("NONE: no such LAYER, numbers, or there are 200.");
        for (int layer : Edges.beyond(0, 3)) {
            refused("measure of layer " + layer, -1, x -> x.measure(layer, 1, 1, 1));
        }
        for (int mm : Edges.beyond(0, 99)) {
            refused("measure of size " + mm, -1, x -> x.measure(0, mm, 1, 1));
            refused("measure of width " + mm, -1, x -> x.measure(0, 1, 1, mm));
        }
        for (int rings : Edges.beyond(0, 30)) {
            refused("measure of rings " + rings, -1, x -> x.measure(0, 1, rings, 1));
        }
    }

    private void causes() {
        edges.sentence("Long.MIN_VALUE: NONE, or no such ones.");
        for (int k : Edges.beyond(0, 1)) {
            refused("cause " + k, Long.MIN_VALUE, x -> x.cause(k, 0));
        }
        for (int layer : Edges.beyond(0, 3)) {
            refused("cause of layer " + layer, Long.MIN_VALUE, x -> x.cause(0, layer));
            refused("why of layer " + layer, -1, x -> x.why(layer));
            refused("stay of layer " + layer, -1, x -> x.stay(layer));
            refused("middle of layer " + layer, -2, x -> x.middle(layer, 0));
            refused("season of layer " + layer, -1, x -> x.season(layer, 0, 0));
            refused("days of layer " + layer, -1, x -> x.days(layer, 1, 1));
            refused("eaten of layer " + layer, -1, x -> x.eaten(layer, 0, 0));
            refused("holds of layer " + layer, -1, x -> x.holds(layer, 0));
            refused("bed of layer " + layer, -2, x -> x.bed(9, layer, 0));
            refused("order of layer " + layer, -1, x -> x.order(9, layer, 0));
        }
        for (int n : Edges.beyond(0, 9)) {
            refused("bed by " + n, -2, x -> x.bed(n, 0, 0));
            refused("order by " + n, -1, x -> x.order(n, 0, 1));
            refused("quarrel by " + n, -1, x -> x.quarrel(n));
        }
    }

    private static long countOf(ShellHeap x, int what) {
        try {
            return x.count(what);
        } catch (NoSuchElementException none) {
            return Long.MAX_VALUE;
        }
    }

    private void counts() {
        edges.sentence("NoSuchElementException: no such what.");
        for (int what : Edges.beyond(0, 7)) {
            refused("count(" + what + ")", Long.MAX_VALUE, x -> countOf(x, what));
        }
    }

    private void asks(String what, Call call) {
        ShellHeap desk = desk();
        long first = call.on(desk);
        edges.due(what + " answers twice alike", call.on(desk), first);
        edges.same("all stays after " + what, Prints.of(desk), untouched);
    }

    private void asking() {
        edges.sentence("Nothing is promised beyond the answers and state changes described above, and nothing about an object after its 512th call.");
        for (int i = 0; i <= 9; i++) {
            int n = i;
            int layer = i % 4;
            int what = i % 6;
            asks("fault(" + what + ")", x -> x.fault(what));
            asks("bed(" + n + ")", x -> x.bed(n, layer, what % 5));
            asks("order(" + n + ")", x -> x.order(n, layer, 0));
            asks("quarrel(" + n + ")", x -> x.quarrel(n));
            asks("holds", x -> x.holds(layer, what % 3));
            asks("eaten", x -> x.eaten(layer, 1, what % 4));
            asks("days", x -> x.days(layer, 1, 1));
            asks("season", x -> x.season(layer, what % 3, what));
            asks("stay", x -> x.stay(layer));
            asks("middle", x -> x.middle(layer, what % 4));
            asks("cause", x -> x.cause(what % 2, layer));
            asks("why", x -> x.why(layer));
            asks("count", x -> x.count(n % 8));
        }
    }

    private void fullTape() {
        edges.sentence("NONE, and none come, if it would have more than 700.");
        begin(x -> {
            for (int i = 0; i < 33; i++) {
                x.feed(0x20202020, 0x20202020, 0x20202020, 0x20202020, 0x20202020);
            }
        });
        refused("a feed beyond 700", -1, x -> x.feed(0, 0, 0, 0, 0));
        for (int n : Edges.beyond(0, 700)) {
            refused("rules(" + n + ")", -2, x -> x.rules(n));
        }
    }

    private void fullBook() {
        edges.sentence("NOTES, at most 80, numbered from 0 on, of a sort:");
        begin(x -> {
            for (int i = x.count(2); i < 80; i++) {
                x.note(3, 0, 0, 9999);
            }
        });
        for (int sort = 0; sort <= 3; sort++) {
            int of = sort;
            refused("an 81st note of sort " + sort, -1, x -> x.note(of, 1, 0, 9));
        }
        refused("an 81st, a strike", -1, x -> x.strike(0));
        refused("an 81st, finds", -2, x -> x.finds(40, 0));
        refused("an 81st, finds of no text", -2, x -> x.finds(0, 0));
    }

    private void fullLayers() {
        edges.sentence("A LAYER: its number; NONE: there are 12.");
        begin(x -> {
            for (int i = 4; i < 12; i++) {
                x.layer();
            }
        });
        refused("a thirteenth layer", -1, x -> x.layer());
    }

    private void fullColumns() {
        edges.sentence("NONE: no such CELL, there is one, or there are 10.");
        begin(x -> {
            for (int i = 2; i < 10; i++) {
                x.column(i % 5, i / 5 * 3);
            }
        });
        refused("an eleventh column", -1, x -> x.column(2, 2));
        refused("an eleventh where one is", -1, x -> x.column(1, 1));
        refused("thick of an eleventh", 0, x -> as(x.thick(10, 0, 1)));
    }

    private void fullKinds() {
        edges.sentence("NONE: no such MEAT, VALVES, or there are 6.");
        begin(x -> {
            for (int i = 2; i < 6; i++) {
                x.kind(3, 1);
            }
        });
        refused("a seventh kind", -1, x -> x.kind(3, 1));
        refused("kept of a seventh", 0, x -> as(x.kept(6, 0, 1)));
    }

    private void fullReadings() {
        edges.sentence("(A BED that comes to have more by a later NOTE has them all.)");
        begin(x -> {
            x.readings(0, 0, 9, 9, 6, 6);
            x.readings(1, 0, 1, 0, 0, 0);
        });
        refused("a 41st reading", -1, x -> x.readings(0, 0, 0, 0, 0, 1));
        begin(x -> {
            x.readings(0, 0, 9, 9, 6, 6);
            x.readings(1, 0, 1, 0, 0, 0);
            x.note(2, 0, 1, 0);
        });
        refused("one beyond 41", -1, x -> x.readings(1, 0, 0, 0, 0, 1));
        refused("t of 41", -1, x -> x.season(0, 0, 0));
        refused("stay of 41", -1, x -> x.stay(0));
    }

    private void fullSizes() {
        edges.sentence("NONE: no such LAYER, numbers, or there are 200.");
        begin(x -> {
            for (int i = 3; i < 200; i++) {
                x.measure(i % 4, i % 100, i % 31, i % 50);
            }
        });
        refused("a 201st shell", -1, x -> x.measure(0, 1, 1, 1));
    }
}
