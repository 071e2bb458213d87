/** Promises 2, 4, 5 and 16 to 19: the tape, finds and what was eaten, with answers worked out by hand. */
final class ShellPromisesTest {
    private final Checks checks = new Checks();

    public static void main(String[] args) {
        ShellPromisesTest test = new ShellPromisesTest();
        test.feeds();
        test.findsRead();
        test.findsFaults();
        test.findsTokens();
        test.findsRefused();
        test.kinds();
        test.sieves();
        test.hinges();
        test.eaten();
        test.days();
        test.lost();
        test.checks.end();
    }

    private void feeds() {
        ShellHeap x = Desks.withLayers(1);
        x.kind(1, 1);
        for (int i = 1; i <= 35; i++) {
            checks.due("2: feed", x.feed(0x20202020, 0x20202020, 0x20202020, 0x20202020, 0x20202020), 20 * i);
        }
        checks.due("2: beyond 700", x.feed(0, 0, 0, 0, 0), -1);
        checks.due("2: none came", x.rules(701), -2);
        checks.due("2: 700 blanks are no rules", x.rules(700), 0);
        checks.due("3: the tape is empty then", x.feed(0x6b307330, 0x3a6c6566, 0x74203920, 0, 0xffffffff), 20);
        checks.due("2: the highest byte first", x.finds(12, 0), 0);
        checks.due("2: left 9", x.eaten(0, 0, 0), 9);
    }

    private ShellHeap desk() {
        ShellHeap x = Desks.withLayers(2);
        x.kind(10, 1);
        x.kind(100, 2);
        return x;
    }

    private void findsRead() {
        ShellHeap x = desk();
        checks.due("4: a note", Texts.finds(x, "k0 s0:left 1", 0), 0);
        checks.due("4: another", Texts.finds(x, "\nk1\ns3 : whole 2 , left 0,right 007;\n", 1), 1);
        checks.due("4: the same part in two finds", Texts.finds(x, "k0s0:left 1;k0s0:left 2;", 0), 2);
        checks.due("5: no fault", x.fault(0), 0);
        checks.due("5: no place", x.fault(1), -1);
        checks.due("5: another what", x.fault(2), -1);
        checks.due("5: what below 0", x.fault(-1), -1);
        checks.due("4: their sum", x.eaten(0, 0, 0), 4);
        checks.due("4: of the other layer", x.eaten(1, 1, 0), 9);
        checks.due("4: a kind with a 0 ahead", Texts.finds(x, "k01 s00: whole 999", 1), 3);
        checks.due("4: all parts", Texts.finds(x, "k0 s2: left 1, right 1, whole 1, broken 1, burnt 1, gnawed 1", 0), 4);
        checks.due("4: notes in all", x.count(2), 5);
    }

    private void fault(String text, int sort, int place) {
        ShellHeap x = desk();
        checks.due("4: \"" + text + "\"", Texts.finds(x, text, 0), -1);
        checks.due("5: fault of \"" + text + "\"", x.fault(0), sort);
        checks.due("5: place in \"" + text + "\"", x.fault(1), place);
        checks.due("4: no note of \"" + text + "\"", x.count(2), 0);
        checks.due("4: the tape is empty after \"" + text + "\"", x.feed(0, 0, 0, 0, 0), 20);
    }

    private void findsFaults() {
        fault("", 1, 0);
        fault("  \n ", 1, 4);
        fault("k0", 1, 2);
        fault("k0 s0", 1, 5);
        fault("k0 s0 ", 1, 6);
        fault("k0 s0:", 1, 6);
        fault("k0 s0: left", 1, 11);
        fault("k0 s0: left 1,", 1, 14);
        fault("k0 s0: left 1, ", 1, 15);
        fault("k0 s0: left 1;;", 1, 14);
        fault("k0 s0: left 1; k0", 1, 17);
        fault("; k0 s0: left 1", 1, 0);
        fault("k0 s0: left 1 right 2", 1, 14);
        fault("k0 s0: left right", 1, 12);
        fault("k0 s0: left 1, 2", 1, 15);
        fault("s0 k0: left 1", 1, 0);
        fault("k0 k0: left 1", 1, 3);
        fault("k0 k9: left 1", 1, 3);
        fault("k0, s0: left 1", 1, 2);
        fault("k2 s0: left 1", 2, 0);
        fault("k99999999999999999999 s0: left 1", 2, 0);
        fault("k0 s4: left 1", 2, 3);
        fault("k0 s4294967296: left 1", 2, 3);
        fault("k0 s0: left 1000", 2, 12);
        fault("k0 s0: left 4294967297", 2, 12);
        fault("k0 s0: left 1, right 2, left 1000", 3, 24);
        fault("k0 s0: left 1; k1 s1: burnt 1, burnt 2", 3, 31);
        fault("k0 s0: left 1000, left 1", 2, 12);
    }

    private void findsTokens() {
        fault("k s0: left 1", 1, 0);
        fault("k0 s: left 1", 1, 3);
        fault("kk0 s0: left 1", 1, 0);
        fault("k0x s0: left 1", 1, 2);
        fault("K0 s0: left 1", 1, 0);
        fault("k 0 s0: left 1", 1, 0);
        fault("k0 s0: left1", 1, 7);
        fault("k0 s0: lefts 1", 1, 7);
        fault("k0 s0: lef 1", 1, 7);
        fault("k0 s0: Left 1", 1, 7);
        fault("k0 s0: left 1x", 1, 13);
        fault("k0 s0: left -1", 1, 12);
        fault("k0\ts0: left 1", 1, 2);
        fault("k0\rs0: left 1", 1, 2);
        fault("k0 s0: left 1 \u0000", 1, 14);
        fault("k0 s0: left \u00e9", 1, 12);
        fault("k0 s0<: left 1", 1, 5);
        fault("k0 s0: k0 1", 1, 7);
    }

    private void findsRefused() {
        ShellHeap x = desk();
        Texts.finds(x, "k0 s0: left", 0);
        Texts.feed(x, "k0 s0: left 1");
        checks.due("4: n below 0", x.finds(-1, 0), -2);
        checks.due("4: too many", x.finds(21, 0), -2);
        checks.due("4: no such layer", x.finds(13, 2), -2);
        checks.due("4: layer below 0", x.finds(13, -1), -2);
        checks.due("3: n below 0", x.rules(-1), -2);
        checks.due("3: too many", x.rules(21), -2);
        checks.due("5: the latest that was not -2", x.fault(0), 1);
        checks.due("5: and its place", x.fault(1), 11);
        checks.due("4: the tape stays", x.finds(13, 0), 0);
        checks.due("5: none now", x.fault(0), 0);
        checks.due("4: the tape is empty", x.finds(1, 0), -2);
        checks.due("3: the tape is empty", x.rules(1), -2);
    }

    private void kinds() {
        ShellHeap x = new ShellHeap();
        checks.due("16: meat below 0", x.kind(-1, 1), -1);
        checks.due("16: meat above", x.kind(1000, 1), -1);
        checks.due("16: no valves", x.kind(0, 0), -1);
        checks.due("16: three valves", x.kind(0, 3), -1);
        checks.due("16: the least", x.kind(0, 1), 0);
        checks.due("16: the greatest", x.kind(999, 2), 1);
        for (int i = 2; i < 6; i++) {
            checks.due("16: up to 6", x.kind(5, 1), i);
        }
        checks.due("16: a seventh", x.kind(5, 1), -1);
    }

    private void sieves() {
        ShellHeap x = desk();
        checks.due("17: no such kind", x.kept(2, 0, 1), false);
        checks.due("17: kind below 0", x.kept(-1, 0, 1), false);
        checks.due("17: no such sieve", x.kept(0, 4, 1), false);
        checks.due("17: sieve below 0", x.kept(0, -1, 1), false);
        checks.due("17: 0 of 16", x.kept(0, 0, 0), false);
        checks.due("17: 17 of 16", x.kept(0, 0, 17), false);
        checks.due("17: 1 of 16", x.kept(0, 0, 1), true);
        checks.due("17: 16 of 16", x.kept(0, 3, 16), true);
        Texts.finds(x, "k0 s0: whole 2; k0 s1: whole 5; k1 s0: whole 3", 0);
        checks.due("18: righted", x.eaten(0, 0, 1), 32 + 5);
        checks.due("18: of another kind", x.eaten(0, 1, 1), 3);
        // 2 times 16 by 3 are 10 2/3, 1 times 16 by 7 are 2 2/7, 1 times 16 by 15 are 1 1/15: together 14 and some 2/100
        x.kept(1, 0, 3);
        x.kept(1, 1, 7);
        x.kept(1, 2, 15);
        ShellHeap y = desk();
        y.kept(1, 0, 3);
        y.kept(1, 1, 7);
        y.kept(1, 2, 15);
        Texts.finds(y, "k1 s0: whole 2; k1 s1: whole 1; k1 s2: left 1", 0);
        checks.due("18: cut only when together", y.eaten(0, 1, 1), 14);
    }

    private void hinges() {
        ShellHeap x = desk();
        Texts.finds(x, "k0 s0: left 3, right 5, whole 2, broken 9, burnt 9, gnawed 9", 0);
        Texts.finds(x, "k1 s0: left 3, right 5, whole 2, broken 9, burnt 9, gnawed 9", 0);
        checks.due("18: of one valve", x.eaten(0, 0, 0), 10);
        checks.due("18: of two valves", x.eaten(0, 1, 0), 7);
        Texts.finds(x, "k1 s0: left 4", 0);
        checks.due("18: greater of the sums", x.eaten(0, 1, 0), 9);
        Texts.finds(x, "k1 s1: left 4", 0);
        checks.due("18: sieves each by itself", x.eaten(0, 1, 0), 13);
        Texts.finds(x, "k1 s0: right 4", 1);
        checks.due("18: not of the layer", x.eaten(0, 1, 0), 13);
        int one = x.note(2, 1, 0, 0);
        checks.due("18: of the bed", x.eaten(0, 1, 0), 15);
        checks.due("18: of the bed by its other layer", x.eaten(1, 1, 0), 15);
        x.strike(2);
        checks.due("18: finds struck", x.eaten(1, 1, 0), 2 + 9 + 4);
        x.strike(one);
        checks.due("18: parted again", x.eaten(1, 1, 0), 4);
    }

    private void eaten() {
        ShellHeap x = desk();
        Texts.finds(x, "k0 s0: left 3; k1 s0: whole 2", 0);
        checks.due("18: food", x.eaten(0, 0, 2), 230);
        checks.due("18: food of no kind", x.eaten(0, 77, 2), 230);
        checks.due("18: lost of no kind", x.eaten(0, -1, 3), 0);
        x.kept(0, 0, 7);
        checks.due("18: food by what is righted and cut", x.eaten(0, 0, 2), 60 + 200);
        checks.due("18: no such kind", x.eaten(0, 2, 0), -1);
        checks.due("18: kind below 0", x.eaten(0, -1, 1), -1);
        checks.due("18: no such layer", x.eaten(2, 0, 0), -1);
        checks.due("18: no such layer for food", x.eaten(2, 0, 2), -1);
        checks.due("18: layer below 0", x.eaten(-1, 0, 0), -1);
        checks.due("18: no such what", x.eaten(0, 0, 4), -1);
        checks.due("18: what below 0", x.eaten(0, 0, -1), -1);
        ShellHeap y = Desks.withLayers(1);
        checks.due("18: food without kinds", y.eaten(0, 0, 2), 0);
        checks.due("18: lost without finds", y.eaten(0, 0, 3), 0);
        checks.due("18: number without kinds", y.eaten(0, 0, 0), -1);
    }

    private void days() {
        ShellHeap x = desk();
        Texts.finds(x, "k1 s0: whole 999", 0);
        checks.due("19: 99900 by 1 and 1 of 100", x.days(0, 1, 1), 9990000);
        checks.due("19: 99900 by 100 and all", x.days(0, 100, 100), 999);
        checks.due("19: cut", x.days(0, 101, 100), 989);
        checks.due("19: by 99999", x.days(0, 99999, 100), 0);
        checks.due("19: by 99999 and half", x.days(0, 99999, 50), 1);
        checks.due("19: of the empty layer", x.days(1, 1, 1), 0);
        checks.due("19: no such layer", x.days(2, 1, 1), -1);
        checks.due("19: layer below 0", x.days(-1, 1, 1), -1);
        checks.due("19: 0 a day", x.days(0, 0, 1), -1);
        checks.due("19: too much a day", x.days(0, 100000, 1), -1);
        checks.due("19: 0 of 100", x.days(0, 1, 0), -1);
        checks.due("19: 101 of 100", x.days(0, 1, 101), -1);
    }

    private void lost() {
        ShellHeap x = desk();
        Texts.finds(x, "k0 s0: left 1, right 1, whole 1, broken 1, burnt 1, gnawed 1; k1 s3: gnawed 1", 0);
        checks.due("18: lost 2 of 7", x.eaten(0, 0, 3), 285);
        Texts.finds(x, "k1 s1: gnawed 0", 1);
        checks.due("18: lost of none", x.eaten(1, 0, 3), 0);
        Texts.finds(x, "k1 s1: gnawed 1", 1);
        checks.due("18: lost one of one", x.eaten(1, 0, 3), 1000);
        Texts.finds(x, "k1 s1: gnawed 4", 1);
        checks.due("18: lost all", x.eaten(1, 0, 3), 1000);
        x.note(2, 0, 1, 0);
        checks.due("18: lost of the bed", x.eaten(1, 0, 3), 7 * 1000 / 12);
    }
}
