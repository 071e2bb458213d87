/** The edges of KINDS and of promises 16 to 19: kinds, sieves, least numbers, food, days and what was lost. */
final class EatenEdgesTest {
    private static final int ONE = 2;

    private final Edges edges = new Edges();

    public static void main(String[] args) {
        EatenEdgesTest test = new EatenEdgesTest();
        test.kindsAtMostSix();
        test.keptOfSixteen();
        test.keptOfEach();
        test.sums();
        test.hinges();
        test.noHinges();
        test.leastNumber();
        test.righted();
        test.food();
        test.days();
        test.lost();
        test.kindCall();
        test.keptCall();
        test.eatenCall();
        test.daysCall();
        test.edges.end();
    }

    private static ShellHeap desk(int valves) {
        ShellHeap x = Desks.withLayers(3);
        x.kind(10, valves);
        return x;
    }

    private void kindsAtMostSix() {
        edges.sentence("KINDS of shells, at most 6: MEAT 0 .. 999 (tenths of grams), VALVES 1 or 2.");
        ShellHeap x = Desks.withLayers(1);
        int[] meats = {0, 1, 998, 999, 5, 5};
        for (int i = 0; i < 6; i++) {
            edges.due("kind " + i, x.kind(meats[i], 1 + i % 2), i);
            edges.due("are counted", x.count(4), i + 1);
        }
        edges.due("a seventh", x.kind(5, 1), -1);
        edges.due("six stay", x.count(4), 6);
        for (int i = 0; i < 6; i++) {
            ShellHeap y = Desks.withLayers(1);
            for (int k = 0; k <= i; k++) {
                y.kind(meats[k], 1 + k % 2);
            }
            Texts.finds(y, "k" + i + "s0:left 1,right 1", 0);
            edges.due("valves of " + i, y.eaten(0, i, 0), i % 2 == 0 ? 2 : 1);
            edges.due("meat of " + i, y.eaten(0, i, 2), (i % 2 == 0 ? 2 : 1) * meats[i]);
        }
        for (int meat : Edges.beyond(0, 999)) {
            edges.due("meat " + meat, Desks.withLayers(1).kind(meat, 1), -1);
        }
        for (int valves : Edges.beyond(1, 2)) {
            edges.due("valves " + valves, Desks.withLayers(1).kind(1, valves), -1);
        }
    }

    private void keptOfSixteen() {
        edges.sentence("KEPT of a KIND by a SIEVE 0 .. 3: 1 .. 16 of 16 (16 at first).");
        for (int sieve = 0; sieve <= 3; sieve++) {
            ShellHeap x = desk(1);
            Texts.finds(x, "k0s" + sieve + ":left 1", 0);
            edges.due("16 at first", x.eaten(0, 0, 1), 1);
            for (int of16 = 1; of16 <= 16; of16++) {
                edges.due(of16 + " of 16", x.kept(0, sieve, of16), true);
                edges.due("righted by " + of16, x.eaten(0, 0, 1), 16 / of16);
                edges.due("the least number stays", x.eaten(0, 0, 0), 1);
            }
            x.kept(0, sieve, 4);
            for (int of16 : Edges.beyond(1, 16)) {
                edges.due(of16 + " of 16", x.kept(0, sieve, of16), false);
            }
            edges.due("4 of 16 stay", x.eaten(0, 0, 1), 4);
        }
    }

    /** Each kind and sieve has a number of its own. */
    private void keptOfEach() {
        ShellHeap x = Desks.withLayers(1);
        for (int kind = 0; kind < 6; kind++) {
            x.kind(1, 1);
            for (int sieve = 0; sieve < 4; sieve++) {
                x.kept(kind, sieve, sieve == 3 ? 1 : 2 << sieve);
            }
            x.kept(kind, kind % 3, 16);
            Texts.finds(x, "k" + kind + "s0:left 1;k" + kind + "s1:left 100;k" + kind + "s2:left 300;k" + kind + "s3:left 0", 0);
        }
        int[][] righted = {{1, 400, 600}, {8, 100, 600}, {8, 400, 300}};
        for (int kind = 0; kind < 6; kind++) {
            int[] due = righted[kind % 3];
            edges.due("righted of " + kind, x.eaten(0, kind, 1), due[0] + due[1] + due[2]);
        }
    }

    private void sums() {
        edges.sentence("Of a BED, a KIND and a SIEVE: SUM of a PART: of all FINDS that COUNT in its LAYERS.");
        ShellHeap x = desk(2);
        edges.due("none", x.eaten(0, 0, 0), 0);
        Texts.finds(x, "k0s0:left 3;k0s0:left 4", 0);
        Texts.finds(x, "k0s0:right 5", 1);
        Texts.finds(x, "k0s0:left 8", 2);
        x.note(ONE, 0, 1, 0);
        edges.due("of both layers: the greater sum", x.eaten(1, 0, 0), 7);
        edges.due("not of the third", x.eaten(2, 0, 0), 8);
        x.strike(0);
        edges.due("struck", x.eaten(1, 0, 0), 5);
        x.strike(4);
        edges.due("the strike struck", x.eaten(0, 0, 0), 7);
        x.note(ONE, 2, 0, 0);
        edges.due("of all three", x.eaten(2, 0, 0), 15);
        ShellHeap full = desk(1);
        for (int i = 0; i < 80; i++) {
            Texts.finds(full, "k0s0:left 999", 2);
        }
        edges.due("of 80 notes", full.eaten(2, 0, 0), 80 * 999);
        edges.due("none struck any more", full.strike(0), -1);
        ShellHeap last = desk(1);
        for (int i = 0; i < 79; i++) {
            Texts.finds(last, "k0s0:left 1", 2);
        }
        last.strike(78);
        edges.due("struck by the last note", last.eaten(2, 0, 0), 78);
    }

    private void hinges() {
        edges.sentence("HINGES: of VALVES 1: left, right and whole together; of 2: whole, and the greater of left and right.");
        int[][] parts = {{0, 0, 0}, {3, 0, 0}, {0, 3, 0}, {0, 0, 3}, {3, 3, 0}, {3, 4, 1}, {4, 3, 1}, {999, 998, 999}};
        for (int[] p : parts) {
            String text = "k0s0:left " + p[0] + ",right " + p[1] + ",whole " + p[2];
            ShellHeap one = desk(1);
            Texts.finds(one, text, 0);
            edges.due("of one valve, " + text, one.eaten(0, 0, 0), p[0] + p[1] + p[2]);
            ShellHeap two = desk(2);
            Texts.finds(two, text, 0);
            edges.due("of two valves, " + text, two.eaten(0, 0, 0), p[2] + (p[0] > p[1] ? p[0] : p[1]));
        }
    }

    private void noHinges() {
        edges.sentence("Broken, burnt, gnawed give none.");
        for (int valves = 1; valves <= 2; valves++) {
            for (String part : new String[] {"broken", "burnt", "gnawed"}) {
                ShellHeap x = desk(valves);
                Texts.finds(x, "k0s0:" + part + " 999", 0);
                edges.due(part + " of " + valves, x.eaten(0, 0, 0), 0);
                edges.due(part + " righted", x.eaten(0, 0, 1), 0);
                edges.due(part + " as food", x.eaten(0, 0, 2), 0);
            }
        }
    }

    private void leastNumber() {
        edges.sentence("LEAST NUMBER of a BED and KIND: over SIEVES the HINGES;");
        ShellHeap x = desk(2);
        x.kind(1, 2);
        Texts.finds(x, "k0s0:left 1;k0s1:right 10;k0s2:left 100;k0s3:right 500;k1s0:whole 7", 0);
        edges.due("each sieve by itself", x.eaten(0, 0, 0), 611);
        edges.due("of another kind", x.eaten(0, 1, 0), 7);
        edges.due("of an empty bed", x.eaten(1, 0, 0), 0);
    }

    private void righted() {
        edges.sentence("RIGHTED: over SIEVES HINGES times 16 by KEPT, together, then cut.");
        righted(new int[] {12, 12, 12, 16}, new int[] {1, 1, 1, 0}, 4);
        righted(new int[] {12, 12, 16, 16}, new int[] {1, 1, 0, 0}, 2);
        righted(new int[] {12, 16, 16, 16}, new int[] {1, 0, 0, 0}, 1);
        righted(new int[] {3, 3, 3, 3}, new int[] {1, 1, 1, 0}, 16);
        righted(new int[] {3, 3, 3, 3}, new int[] {1, 1, 0, 0}, 10);
        righted(new int[] {7, 9, 11, 13}, new int[] {1, 1, 1, 1}, 6);
        righted(new int[] {7, 9, 11, 13}, new int[] {7, 9, 11, 13}, 64);
        // 16 by 15 fifteen times is 16, which no row of cut or rounded fractions tells
        righted(new int[] {15, 15, 15, 15}, new int[] {4, 4, 4, 3}, 16);
        righted(new int[] {15, 15, 15, 15}, new int[] {4, 4, 4, 2}, 14);
        righted(new int[] {1, 1, 1, 1}, new int[] {999, 999, 999, 999}, 4 * 999 * 16);
        righted(new int[] {16, 16, 16, 16}, new int[] {999, 0, 1, 999}, 1999);
    }

    private void righted(int[] kept, int[] hinges, long due) {
        ShellHeap x = desk(1);
        StringBuilder text = new StringBuilder();
        for (int sieve = 0; sieve < 4; sieve++) {
            x.kept(0, sieve, kept[sieve]);
            text.append("k0s").append(sieve).append(":whole ").append(hinges[sieve]).append(';');
        }
        Texts.finds(x, text.toString(), 0);
        edges.due(java.util.Arrays.toString(kept) + " of " + text, x.eaten(0, 0, 1), due);
    }

    private void food() {
        edges.sentence("FOOD of a BED: over KINDS RIGHTED times MEAT.");
        ShellHeap x = Desks.withLayers(2);
        edges.due("without kinds", x.eaten(0, 0, 2), 0);
        int[] meats = {0, 999, 1, 10, 100, 500};
        long due = 0;
        for (int i = 0; i < 6; i++) {
            x.kind(meats[i], 1);
            Texts.finds(x, "k" + i + "s0:left " + (i + 1), 0);
            due += (i + 1) * meats[i];
            edges.due("of " + (i + 1) + " kinds", x.eaten(0, 0, 2), due);
        }
        edges.due("of an empty bed", x.eaten(1, 0, 2), 0);
        x.kept(4, 0, 6);
        edges.due("by what is cut: 5 times 16 by 6 is 13", x.eaten(0, 0, 2), due + 800);
        ShellHeap most = Desks.withLayers(1);
        most.kind(999, 1);
        most.kept(0, 0, 1);
        for (int i = 0; i < 40; i++) {
            Texts.finds(most, "k0s0:left 999,right 999,whole 999;".repeat(3), 0);
        }
        long food = 40L * 9 * 999 * 16 * 999;
        edges.due("more than an int holds", most.eaten(0, 0, 2), food);
        edges.due("and its days", most.days(0, 1, 1), food * 100);
        edges.due("of all", most.days(0, 1, 100), food);
    }

    private void days() {
        edges.sentence("DAYS of people that eat so much a day (1 .. 99999 tenths of grams) with p of 100 (1 .. 100) from shells: FOOD times 100 by both, cut.");
        ShellHeap x = Desks.withLayers(2);
        x.kind(999, 1);
        edges.due("of no food", x.days(0, 1, 1), 0);
        Texts.finds(x, "k0s0:whole 101", 0);
        int food = 101 * 999;
        edges.due("1 and 1", x.days(0, 1, 1), food * 100);
        edges.due("1 and 100", x.days(0, 1, 100), food);
        edges.due("99999 and 100", x.days(0, 99999, 100), 1);
        edges.due("99999 and 1", x.days(0, 99999, 1), 100);
        edges.due("two days and some more", x.days(0, 50449, 100), 2);
        edges.due("three days to the last tenth", x.days(0, 33633, 100), 3);
        edges.due("a tenth a day too little for three", x.days(0, 33634, 100), 2);
        edges.due("cut but once", x.days(0, 7, 3), food * 100L / 21);
        for (int aDay : Edges.beyond(1, 99999)) {
            edges.due("a day " + aDay, x.days(0, aDay, 1), -1);
        }
        for (int of100 : Edges.beyond(1, 100)) {
            edges.due("of 100 " + of100, x.days(0, 1, of100), -1);
        }
    }

    private void lost() {
        edges.sentence("LOST of a BED: of 1000, gnawed by all PARTS together (burnt too), cut (0 without any).");
        ShellHeap none = desk(1);
        edges.due("without finds", none.eaten(0, 0, 3), 0);
        edges.due("without kinds", Desks.withLayers(1).eaten(0, 0, 3), 0);
        Texts.finds(none, "k0s0:gnawed 0,left 0", 0);
        edges.due("without any in finds", none.eaten(0, 0, 3), 0);
        lost("gnawed 1", 1000);
        lost("gnawed 999", 1000);
        lost("left 999", 0);
        lost("gnawed 1,left 999", 1);
        lost("gnawed 1,left 999,right 1", 0);
        lost("gnawed 1,whole 2", 333);
        lost("gnawed 2,whole 1", 666);
        lost("gnawed 999,broken 1", 999);
        lost("gnawed 998,broken 1", 998);
        for (String part : new String[] {"left", "right", "whole", "broken", "burnt"}) {
            lost("gnawed 1," + part + " 1", 500);
            lost(part + " 1", 0);
        }
        ShellHeap x = Desks.withLayers(1);
        for (int kind = 0; kind < 6; kind++) {
            x.kind(1, 2);
            Texts.finds(x, "k" + kind + "s" + kind % 4 + ":gnawed 1,left 1,right 1", 0);
            edges.due("of kinds and sieves together", x.eaten(0, 0, 3), 333);
        }
        x.kept(0, 0, 1);
        edges.due("by what was found, not righted", x.eaten(0, 0, 3), 333);
    }

    private void lost(String parts, long due) {
        ShellHeap x = desk(2);
        Texts.finds(x, "k0s3:" + parts, 0);
        edges.due(parts, x.eaten(0, 0, 3), due);
    }

    private void kindCall() {
        edges.sentence("`int kind(int meat, int valves)`: A KIND: its number; NONE: no such MEAT, VALVES, or there are 6.");
        ShellHeap x = Desks.withLayers(1);
        for (int meat : Edges.beyond(0, 999)) {
            edges.due("meat " + meat, x.kind(meat, 2), -1);
        }
        for (int valves : Edges.beyond(1, 2)) {
            edges.due("valves " + valves, x.kind(0, valves), -1);
        }
        edges.due("none came", x.count(4), 0);
        edges.due("nor can it be found", Texts.finds(x, "k0s0:left 1", 0), -1);
        for (int i = 0; i < 6; i++) {
            edges.due("kind " + i, x.kind(i % 2 * 999, 1 + i % 2), i);
        }
        edges.due("one more", x.kind(0, 1), -1);
        edges.due("six", x.count(4), 6);
    }

    private void keptCall() {
        edges.sentence("`boolean kept(int kind, int sieve, int of16)`: KEPT: true; false: no such ones.");
        ShellHeap x = Desks.withLayers(1);
        edges.due("no kind", x.kept(0, 0, 16), false);
        x.kind(1, 1);
        x.kind(1, 1);
        Texts.finds(x, "k0s0:left 1;k1s3:left 1", 0);
        for (int kind : Edges.beyond(0, 1)) {
            edges.due("kind " + kind, x.kept(kind, 0, 1), false);
        }
        for (int sieve : Edges.beyond(0, 3)) {
            edges.due("sieve " + sieve, x.kept(0, sieve, 1), false);
            edges.due("sieve " + sieve + " of the last kind", x.kept(1, sieve, 1), false);
        }
        for (int of16 : Edges.beyond(1, 16)) {
            edges.due("of 16 " + of16, x.kept(0, 0, of16), false);
        }
        edges.due("all stays", x.eaten(0, 0, 1) + x.eaten(0, 1, 1), 2);
        edges.due("the last of both", x.kept(1, 3, 1), true);
        edges.due("is told", x.eaten(0, 1, 1), 16);
        edges.due("told anew", x.kept(1, 3, 16), true);
        edges.due("as at first", x.eaten(0, 1, 1), 1);
    }

    private void eatenCall() {
        edges.sentence("`long eaten(int layer, int kind, int what)`: Of the BED of a LAYER (all NOTES) and a KIND, what 0: LEAST NUMBER, 1: RIGHTED; 2: FOOD, 3: LOST (KIND isn't looked at). NONE: no such ones, what.");
        ShellHeap x = desk(1);
        x.kind(3, 1);
        x.kept(1, 0, 8);
        Texts.finds(x, "k1s0:left 2,gnawed 2", 2);
        long[] due = {2, 4, 12, 500};
        for (int what = 0; what <= 3; what++) {
            edges.due("what " + what, x.eaten(2, 1, what), due[what]);
            for (int kind : Edges.beyond(0, 1)) {
                edges.due("kind " + kind + ", what " + what, x.eaten(2, kind, what), what < 2 ? -1 : due[what]);
            }
            for (int layer : Edges.beyond(0, 2)) {
                edges.due("layer " + layer + ", what " + what, x.eaten(layer, 1, what), -1);
            }
        }
        for (int what : Edges.beyond(0, 3)) {
            edges.due("what " + what, x.eaten(2, 1, what), -1);
            edges.due("what " + what + " of no kind", x.eaten(2, 2, what), -1);
        }
        x.note(ONE, 0, 2, 0);
        edges.due("of the bed by all notes", x.eaten(0, 1, 0), 2);
        x.strike(1);
        edges.due("by one note more", x.eaten(0, 1, 0), 0);
    }

    private void daysCall() {
        edges.sentence("`long days(int layer, int aDay, int of100)`: DAYS; NONE: no such LAYER, numbers.");
        ShellHeap x = desk(1);
        Texts.finds(x, "k0s0:left 2", 2);
        for (int layer : Edges.beyond(0, 2)) {
            edges.due("layer " + layer, x.days(layer, 1, 1), -1);
        }
        for (int aDay : Edges.beyond(1, 99999)) {
            edges.due("a day " + aDay, x.days(2, aDay, 100), -1);
        }
        for (int of100 : Edges.beyond(1, 100)) {
            edges.due("of 100 " + of100, x.days(2, 1, of100), -1);
        }
        edges.due("days", x.days(2, 1, 100), 20);
        edges.due("of another layer", x.days(0, 1, 100), 0);
        x.note(ONE, 0, 2, 0);
        edges.due("of its bed", x.days(0, 1, 100), 20);
        edges.due("without layers", new ShellHeap().days(0, 1, 1), -1);
    }
}
