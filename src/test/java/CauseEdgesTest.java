import java.util.List;

/** The edges of VALUES and WHY, and of promises 26 and 27: what an E is worth, where it is NONE, and the one cause. */
final class CauseEdgesTest {
    private static final long NO = Long.MIN_VALUE;
    private static final int OVER = 0;
    private static final int ONE = 2;
    private static final int DATE = 3;
    /** 10 to the 15, as the language can tell it. */
    private static final String FAR = "(1000*1000*1000*1000*1000)";

    private final Edges edges = new Edges();

    public static void main(String[] args) {
        CauseEdgesTest test = new CauseEdgesTest();
        test.valuesOfBothBeds();
        test.valuesOfSeasons();
        test.valuesOfSizes();
        test.valuesOfShells();
        test.valuesOfDays();
        test.valuesOfRanks();
        test.bedAhead();
        test.bedAheadByRows();
        test.valuesThatAreNot();
        test.noneOfAll();
        test.noneInARing();
        test.tooFar();
        test.products();
        test.oneOrZero();
        test.bothSides();
        test.divisions();
        test.just();
        test.causeCall();
        test.whyCall();
        test.edges.end();
    }

    private long worth(ShellHeap x, String text, int layer) {
        edges.due("\"" + text + "\" is read", Texts.rules(x, "cause a:" + text + ";"), 1);
        return x.cause(0, layer);
    }

    private void worth(String text, long due) {
        edges.due(text, worth(Desks.withLayers(1), text, 0), due);
    }

    /** The values of both beds of Desks.ofTwoBeds(), in the order of their names. */
    private static final long[] OWN = {50, 8, 31, 19, 3, 1, 199, 121, 200, 399700};
    private static final long[] AHEAD = {60, 10, 30, 2, 1, 0, 185, 15, 20, 40160};

    private void valuesOfBothBeds() {
        edges.sentence("VALUES of a BED: size, age, growth: as above; season: how many bits STAY has; rank: RANK; lost: LOST; holds: HOLDS; number: LEAST NUMBER of KIND 0; food: FOOD; days: DAYS by a day's 20000 and 100 of 100.");
        for (int i = 0; i < 10; i++) {
            String own = PlainTexts.NAMES.get(i);
            for (int layer = 1; layer <= 2; layer++) {
                edges.due(own, worth(Desks.ofTwoBeds(), own, layer), OWN[i]);
                edges.due("then " + own, worth(Desks.ofTwoBeds(), "then " + own, layer), AHEAD[i]);
            }
            edges.due(own + " of the lower bed", worth(Desks.ofTwoBeds(), own, 0), AHEAD[i]);
            for (int j = 0; j < 10; j++) {
                String then = PlainTexts.NAMES.get(j);
                edges.due(own + " and then " + then, worth(Desks.ofTwoBeds(), own + "-then " + then, 2), OWN[i] - AHEAD[j]);
                edges.due(own + " and " + then, worth(Desks.ofTwoBeds(), own + "-" + then, 2), OWN[i] - OWN[j]);
            }
        }
    }

    private void valuesOfSeasons() {
        for (int bits = 0; bits < 16; bits++) {
            ShellHeap x = Desks.withLayers(1);
            x.readings(0, 2, bits & 1, bits >> 1 & 1, bits >> 2 & 1, bits >> 3);
            edges.due("bits of " + bits, worth(x, "season", 0), Integer.bitCount(bits));
        }
        ShellHeap x = Desks.withLayers(2);
        x.readings(0, 0, 9, 9, 9, 9);
        x.readings(0, 0, 1, 1, 1, 1);
        edges.due("of 40 readings", worth(x, "season", 0), 4);
        x.readings(1, 0, 1, 0, 0, 0);
        x.note(ONE, 1, 0, 0);
        edges.due("of 41 readings", x.cause(0, 0), NO);
    }

    private void valuesOfSizes() {
        ShellHeap x = Desks.withLayers(1);
        x.measure(0, 0, 0, 0);
        for (String name : List.of("size", "age", "growth")) {
            edges.due(name + " of 0 is a value", worth(x, name, 0), 0);
        }
        x.measure(0, 99, 30, 99);
        x.measure(0, 99, 30, 99);
        edges.due("size of 99", worth(x, "size", 0), 99);
        edges.due("age of 30", worth(x, "age", 0), 30);
        edges.due("growth of 99", worth(x, "growth", 0), 99);
    }

    private void valuesOfShells() {
        ShellHeap x = Desks.withLayers(1);
        x.kind(7, 2);
        edges.due("number of one kind and no finds", worth(x, "number", 0), 0);
        Texts.finds(x, "k0s0:left 3,right 5", 0);
        x.kept(0, 0, 1);
        edges.due("number is not righted", worth(x, "number", 0), 5);
        edges.due("food is", worth(x, "food", 0), 5 * 16 * 7);
        x.kind(1, 1);
        Texts.finds(x, "k1s0:left 900", 0);
        edges.due("number of kind 0 alone", worth(x, "number", 0), 5);
        ShellHeap y = Desks.withLayers(1);
        y.column(0, 0);
        edges.due("holds of nothing is 0", worth(y, "holds", 0), 0);
        y.thick(0, 0, 500);
        edges.due("holds of all", worth(y, "holds", 0), 18000);
        y.heap(3, 3);
        edges.due("holds without columns", y.cause(0, 0), NO);
    }

    private void valuesOfDays() {
        int[][] kinds = {{999, 20, 19, 1}, {100, 200, 1, 0}, {999, 40, 39, 1}, {400, 100, 0, 0}};
        int[] days = {0, 1, 1, 2};
        for (int i = 0; i < kinds.length; i++) {
            ShellHeap x = Desks.withLayers(1);
            x.kind(kinds[i][0], 1);
            x.kind(kinds[i][2], 1);
            Texts.finds(x, "k0s0:left " + kinds[i][1] + ";k1s0:left " + kinds[i][3], 0);
            long food = (long) kinds[i][0] * kinds[i][1] + kinds[i][2] * kinds[i][3];
            edges.due("food", worth(x, "food", 0), food);
            edges.due("days of " + food, worth(x, "days", 0), days[i]);
        }
    }

    private void valuesOfRanks() {
        ShellHeap x = Desks.withLayers(12);
        for (int i = 0; i < 11; i++) {
            x.note(OVER, i, i + 1, 0);
        }
        Texts.rules(x, "cause a:rank;cause b:then rank;");
        for (int i = 0; i < 12; i++) {
            edges.due("rank of " + i, x.cause(0, i), 11 - i);
            edges.due("then rank of " + i, x.cause(1, i), i == 11 ? NO : 10 - i);
        }
    }

    private static ShellHeap marked(int layers) {
        ShellHeap x = Desks.withLayers(layers);
        for (int i = 0; i < layers; i++) {
            x.measure(i, 10 + i, 1, 1);
        }
        Texts.rules(x, "cause a:then size;");
        return x;
    }

    private void bedAhead() {
        edges.sentence("then: of the BED ahead: of those that it is LATER than the one with the greatest RANK, of several the least number.");
        ShellHeap x = marked(6);
        edges.due("none", x.cause(0, 5), NO);
        x.note(OVER, 5, 4, 0);
        edges.due("one", x.cause(0, 5), 14);
        x.note(OVER, 5, 3, 0);
        edges.due("of two the least number", x.cause(0, 5), 13);
        x.note(OVER, 4, 0, 0);
        edges.due("the greater rank", x.cause(0, 5), 14);
        x.note(OVER, 3, 0, 0);
        edges.due("both of rank 1: the least number", x.cause(0, 5), 13);
        x.note(OVER, 4, 1, 0);
        x.note(OVER, 1, 2, 0);
        edges.due("rank 2", x.cause(0, 5), 14);
        edges.due("of a bed between", x.cause(0, 4), 11);
        edges.due("of the lowest", x.cause(0, 0), NO);
        ShellHeap y = marked(6);
        y.note(OVER, 0, 2, 0);
        y.note(OVER, 0, 5, 0);
        edges.due("of the first layer", y.cause(0, 0), 12);
        y.note(ONE, 5, 1, 0);
        edges.due("the number is a bed's least layer; its size is 11 of 11 and 15", y.cause(0, 0), 11);
        y.strike(2);
        edges.due("as before", y.cause(0, 0), 12);
    }

    private void bedAheadByRows() {
        ShellHeap x = marked(12);
        for (int i = 0; i < 11; i++) {
            x.note(OVER, i + 1, i, 0);
        }
        for (int i = 1; i < 12; i++) {
            edges.due("the next lower", x.cause(0, i), 9 + i);
        }
        edges.due("of the lowest", x.cause(0, 0), NO);
        x.strike(10);
        edges.due("struck", x.cause(0, 11), NO);
        x.note(DATE, 0, 9, 9);
        x.note(DATE, 1, 8, 8);
        edges.due("where no years hold", x.cause(0, 1), 10);
    }

    private void valuesThatAreNot() {
        edges.sentence("NONE (a VALUE that there is not, no BED ahead, a division by 0; rank and then in a RING) makes all of E NONE;");
        ShellHeap x = Desks.withLayers(2);
        x.note(OVER, 1, 0, 0);
        for (String name : PlainTexts.NAMES) {
            boolean none = List.of("size", "age", "growth", "holds", "number").contains(name);
            long due = none ? NO : name.equals("rank") ? 1 : 0;
            edges.due("empty " + name, worth(x, name, 1), due);
            edges.due("empty then " + name, worth(x, "then " + name, 1), none ? NO : 0);
            edges.due("no bed ahead: then " + name, worth(x, "then " + name, 0), NO);
        }
        worth("1/0", NO);
        worth("0/0", NO);
        worth("1/(1-1)", NO);
        worth("(0-1)/0", NO);
        worth("1/(0/1)", NO);
    }

    private void noneOfAll() {
        for (String none : List.of("size", "then food", "(1/0)", "(" + FAR + "+1)")) {
            for (String all : List.of("0*?", "?*0", "0+?", "?-?", "0 and ?", "? and 0", "1 or ?", "? or 1", "not ?", "not not ?",
                    "?=?", "?<>?", "0<?", "?>0", "1<=?", "?>=1", "0/?", "?/1", "(?)", "1+(0*(1 or ?))", "1 or 1 and ?")) {
                worth(all.replace("?", none), NO);
            }
        }
        ShellHeap x = Desks.withLayers(1);
        Texts.rules(x, "cause a:size;cause b:2;cause c:1/0;cause d:3;");
        edges.due("of one cause", x.cause(0, 0), NO);
        edges.due("not of the next", x.cause(1, 0), 2);
        edges.due("of another one", x.cause(2, 0), NO);
        edges.due("not of the last", x.cause(3, 0), 3);
    }

    private void noneInARing() {
        ShellHeap x = Desks.withLayers(4);
        x.note(OVER, 1, 0, 0);
        x.note(OVER, 3, 2, 0);
        Texts.rules(x, "cause a:rank;cause b:then rank;cause c:then food;cause d:food;cause e:season+lost+days;");
        long[] before = {1, 0, 0, 0, 0};
        long[] within = {NO, NO, NO, 0, 0};
        for (int k = 0; k < 5; k++) {
            edges.due("without a ring, cause " + k, x.cause(k, 3), before[k]);
        }
        int ring = x.note(OVER, 0, 1, 0);
        for (int layer = 0; layer < 4; layer++) {
            for (int k = 0; k < 5; k++) {
                edges.due("in a ring, cause " + k + " of " + layer, x.cause(k, layer), within[k]);
            }
        }
        x.strike(ring);
        for (int k = 0; k < 5; k++) {
            edges.due("the ring struck, cause " + k, x.cause(k, 3), before[k]);
        }
    }

    private void tooFar() {
        edges.sentence("so does what is above 10 to the 15 or below 0 by more than that.");
        long far = 1000000000000000L;
        worth(FAR, far);
        worth(FAR + "-1", far - 1);
        worth(FAR + "-1+1", far);
        worth(FAR + "+0", far);
        worth(FAR + "+1", NO);
        worth(FAR + "+1-1", NO);
        worth(FAR + "+1-2", NO);
        worth("0-" + FAR, -far);
        worth("0-" + FAR + "+1", 1 - far);
        worth("0-" + FAR + "-0", -far);
        worth("0-" + FAR + "-1", NO);
        worth("0-" + FAR + "-1+1", NO);
        worth("(0-1)*" + FAR, -far);
        worth(FAR + "*(0-1)", -far);
        worth("(0-" + FAR + ")*(0-1)", far);
        worth("(0-" + FAR + ")/(0-1)", far);
        worth(FAR + "+" + FAR, NO);
        worth("0-" + FAR + "-" + FAR, NO);
        worth(FAR + "-" + FAR, 0);
        worth("0*(" + FAR + "+1)", NO);
        worth("1<" + FAR, 1);
        worth("1<(" + FAR + "+1)", NO);
    }

    private void products() {
        long far = 1000000000000000L;
        worth(FAR + "*1", far);
        worth(FAR + "*0", 0);
        worth("0*" + FAR, 0);
        worth(FAR + "*2", NO);
        worth(FAR + "*(0-2)", NO);
        worth(FAR + "*" + FAR, NO);
        worth("(0-" + FAR + ")*" + FAR, NO);
        worth("99999*99999*99999", 999970000299999L);
        worth("99999*99999*99999*(0-1)", -999970000299999L);
        worth("99999*99999*99999*2", NO);
        // 31622776 by itself is below 10 to the 15, 31622777 by itself above
        worth("(31622*1000+776)*(31622*1000+776)", 999999961946176L);
        worth("(31622*1000+777)*(31622*1000+777)", NO);
        worth("(0-31622*1000-777)*(31622*1000+777)", NO);
        worth("(0-31622*1000-776)*(31622*1000+776)", -999999961946176L);
        // 2 to the 64, which goes round to 0 in a long, and what goes round to 1 or to a number within
        worth("(65536*65536)*(65536*65536)", NO);
        worth("65536*65536*65536*65536", NO);
        worth("(65536*32768)*(65536*65536*2)", NO);
        worth("(0-65536*65536)*(65536*65536)", NO);
        worth("(65536*65536)*(65536*65536)+1", NO);
        worth("(65536*65536+1)*(65536*65536+1)", NO);
        worth("(65536*65536-1)*(65536*65536+1)", NO);
        worth("(65536*32768)*(65536*65536)", NO);
        worth("65536*65536*65536", 281474976710656L);
        worth("65536*65536*65536*4", NO);
    }

    private void oneOrZero() {
        edges.sentence("Comparisons, and, or, not are 1 or 0 (what isn't 0 is as 1; both sides are worked out).");
        long[] numbers = {-2, -1, 0, 1, 2};
        for (long a : numbers) {
            String left = "(0" + (a < 0 ? "" + a : "+" + a) + ")";
            worth("not " + left, a == 0 ? 1 : 0);
            worth("not not " + left, a == 0 ? 0 : 1);
            for (long b : numbers) {
                String right = "(0" + (b < 0 ? "" + b : "+" + b) + ")";
                worth(left + "<" + right, a < b ? 1 : 0);
                worth(left + "<=" + right, a <= b ? 1 : 0);
                worth(left + "=" + right, a == b ? 1 : 0);
                worth(left + "<>" + right, a != b ? 1 : 0);
                worth(left + ">=" + right, a >= b ? 1 : 0);
                worth(left + ">" + right, a > b ? 1 : 0);
                worth(left + " and " + right, a != 0 && b != 0 ? 1 : 0);
                worth(left + " or " + right, a != 0 || b != 0 ? 1 : 0);
            }
        }
    }

    private void bothSides() {
        worth("0 and 1/0", NO);
        worth("1/0 and 0", NO);
        worth("1 or 1/0", NO);
        worth("1/0 or 1", NO);
        worth("0 and size", NO);
        worth("1 or then size", NO);
        worth("1+2*3<2*4 and not 0 or 0", 1);
        worth("5 or 0", 1);
        worth("5 and 7", 1);
        worth("(5 and 7)+(5 or 0)+(not 0)+(1<2)", 4);
    }

    private void divisions() {
        edges.sentence("/ towards 0.");
        long[] numbers = {-7, -6, -5, -2, -1, 0, 1, 2, 5, 6, 7};
        for (long a : numbers) {
            for (long b : new long[] {-3, -2, -1, 1, 2, 3}) {
                String text = "(0" + (a < 0 ? "" + a : "+" + a) + ")/(0" + (b < 0 ? "" + b : "+" + b) + ")";
                long much = Math.abs(a) / Math.abs(b);
                worth(text, (a < 0) == (b < 0) ? much : -much);
            }
            worth("(0" + (a < 0 ? "" + a : "+" + a) + ")/0", NO);
        }
        worth("99999/99999", 1);
        worth("99998/99999", 0);
        worth("(0-99998)/99999", 0);
        worth(FAR + "/" + FAR, 1);
        worth("(" + FAR + "-1)/" + FAR, 0);
        worth("7/2*2", 6);
        worth("7*2/2", 7);
        worth("100/10/5", 2);
    }

    private void just() {
        edges.sentence("WHY of a BED: the CAUSE whose E is not 0 and not NONE, if it is just one; none else.");
        for (int only = 0; only < 6; only++) {
            for (String holds : List.of("1", "2", "0-1", FAR, "0-" + FAR)) {
                edges.due("cause " + only + " alone by " + holds, why(only, only, holds, "0"), only);
                edges.due("cause " + only + " beside none by " + holds, why(only, only, holds, "1/0"), only);
            }
            for (int other = 0; other < 6; other++) {
                edges.due("causes " + only + " and " + other, why(only, other, "1", "0"), only == other ? only : -1);
            }
        }
        edges.due("all hold", why(0, 0, "1", "1"), -1);
        edges.due("none holds", why(0, 0, "0", "0"), -1);
        edges.due("all are none", why(0, 0, "1/0", "1/0"), -1);
        edges.due("one is 0, the others none", why(3, 3, "0", "size"), -1);
    }

    private int why(int first, int second, String holds, String else0) {
        StringBuilder text = new StringBuilder();
        for (int i = 0; i < 6; i++) {
            text.append("cause ").append((char) ('a' + i)).append(':').append(i == first || i == second ? holds : else0).append(';');
        }
        ShellHeap x = Desks.withLayers(1);
        edges.due("\"" + text + "\" is read", Texts.rules(x, text.toString()), 6);
        return x.why(0);
    }

    private void causeCall() {
        edges.sentence("`long cause(int k, int layer)`: VALUE of CAUSE k's E for the BED of a LAYER; Long.MIN_VALUE: NONE, or no such ones.");
        ShellHeap x = Desks.withLayers(2);
        edges.due("without rules", x.cause(0, 0), NO);
        for (int many = 1; many <= 6; many++) {
            StringBuilder text = new StringBuilder();
            for (int i = 0; i < many; i++) {
                text.append("cause ").append((char) ('a' + i)).append(':').append(10 + i).append(';');
            }
            Texts.rules(x, text.toString());
            for (int k = 0; k < many; k++) {
                edges.due("cause " + k + " of " + many, x.cause(k, 1), 10 + k);
            }
            for (int k : Edges.beyond(0, many - 1)) {
                edges.due("cause " + k + " of " + many, x.cause(k, 1), NO);
            }
        }
        for (int layer : Edges.beyond(0, 1)) {
            edges.due("layer " + layer, x.cause(0, layer), NO);
        }
        edges.due("both", x.cause(6, 2), NO);
        x.measure(0, 7, 1, 1);
        Texts.rules(x, "cause a:size;");
        edges.due("a layer of no bed", x.cause(0, 1), NO);
        x.note(ONE, 0, 1, 0);
        edges.due("the bed of a layer, by all notes", x.cause(0, 1), 7);
        edges.due("without layers", new ShellHeap().cause(0, 0), NO);
    }

    private void whyCall() {
        edges.sentence("`int why(int layer)`: WHY: the CAUSE's number; NONE: none, or no such LAYER.");
        ShellHeap x = Desks.withLayers(2);
        edges.due("without rules", x.why(0), -1);
        Texts.rules(x, "cause a:size;cause b:number;");
        edges.due("none", x.why(1), -1);
        x.measure(0, 7, 1, 1);
        edges.due("of one layer", x.why(0), 0);
        edges.due("not of the other", x.why(1), -1);
        x.note(ONE, 0, 1, 0);
        edges.due("of its bed", x.why(1), 0);
        x.kind(1, 1);
        edges.due("the other is 0", x.why(1), 0);
        Texts.finds(x, "k0s0:left 1", 1);
        edges.due("both", x.why(1), -1);
        x.strike(0);
        edges.due("parted", x.why(0), 0);
        edges.due("parted", x.why(1), 1);
        for (int layer : Edges.beyond(0, 1)) {
            edges.due("layer " + layer, x.why(layer), -1);
        }
        edges.due("without layers", new ShellHeap().why(0), -1);
    }
}
