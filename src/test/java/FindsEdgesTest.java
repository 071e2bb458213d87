/** The edges of FINDS as a text, and of promises 2, 4 and 5: the tape, finds and faults. */
final class FindsEdgesTest {
    private static final int BLANKS = 0x20202020;

    private final Edges edges = new Edges();

    public static void main(String[] args) {
        FindsEdgesTest test = new FindsEdgesTest();
        test.findsInARow();
        test.partsInARow();
        test.kindsAndSieves();
        test.partWords();
        test.numbers();
        test.blanks();
        test.tokensBehindWords();
        test.tokensBehindNumbers();
        test.firstFault();
        test.faultAtTheEnd();
        test.faultOfMuch();
        test.faultOfToldParts();
        test.feedCall();
        test.findsCall();
        test.findsRefused();
        test.findsWithAFault();
        test.faultCall();
        test.edges.end();
    }

    private static ShellHeap desk(int kinds) {
        ShellHeap x = Desks.withLayers(2);
        for (int i = 0; i < kinds; i++) {
            x.kind(1, 1);
        }
        return x;
    }

    private ShellHeap good(String text, int kinds) {
        ShellHeap x = desk(kinds);
        edges.due("\"" + text + "\"", Texts.finds(x, text, 0), 0);
        edges.due("no fault in \"" + text + "\"", x.fault(0), 0);
        edges.due("no place in \"" + text + "\"", x.fault(1), -1);
        return x;
    }

    private void good(String text) {
        good(text, 1);
    }

    private void fault(String text, int kinds, int sort, int place) {
        ShellHeap x = desk(kinds);
        edges.due("\"" + text + "\"", Texts.finds(x, text, 0), -1);
        edges.due("fault of \"" + text + "\"", x.fault(0), sort);
        edges.due("place in \"" + text + "\"", x.fault(1), place);
        edges.due("no note of \"" + text + "\"", x.count(2), 0);
    }

    private void fault(String text, int sort, int place) {
        fault(text, 1, sort, place);
    }

    private void findsInARow() {
        edges.sentence("FINDS as a TEXT: FIND { ';' FIND } [ ';' ].");
        good("k0s0:left 1");
        good("k0s0:left 1;");
        good("k0s0:left 1;k0s1:left 1");
        good("k0s0:left 1;k0s1:left 1;");
        good("k0s0:left 1 ; \n");
        fault("", 1, 0);
        fault(" ", 1, 1);
        fault(";", 1, 0);
        fault(" ;k0s0:left 1", 1, 1);
        fault("k0s0:left 1;;", 1, 12);
        fault("k0s0:left 1; ;", 1, 13);
        fault("k0s0:left 1;;k0s0:left 1", 1, 12);
        fault("k0s0:left 1 k0s0:left 1", 1, 12);
        ShellHeap x = good(" ".repeat(4) + "k0s0:left 1;".repeat(58), 1);
        edges.due("all finds of 700 bytes", x.eaten(0, 0, 0), 58);
        fault(" ".repeat(700), 1, 700);
    }

    private void partsInARow() {
        edges.sentence("FIND: KIND SIEVE ':' PART N { ',' PART N }.");
        good("k0s0:left 1");
        good("k0s0:left 1,right 1");
        good("k0s0:left 1,right 1,whole 1,broken 1,burnt 1,gnawed 1");
        fault("k0s0:left 1,right 1,whole 1,broken 1,burnt 1,gnawed 1,", 1, 54);
        fault("k0s0:left 1,right 1,whole 1,broken 1,burnt 1,gnawed 1,left 1", 3, 54);
        fault("k0s0:;", 1, 5);
        fault("k0s0:,left 1", 1, 5);
        fault("k0s0:left 1,,right 1", 1, 12);
        fault("k0s0:left 1,;", 1, 12);
        fault("k0s0::left 1", 1, 5);
        fault("k0s0 left 1", 1, 5);
        fault("k0:left 1", 1, 2);
        fault("s0:left 1", 1, 0);
        fault("k0s0s0:left 1", 1, 4);
        fault("k0s0:left", 1, 9);
        fault("k0s0:1", 1, 5);
        fault("k0s0:left 1 1", 1, 12);
        fault("k0s0:left 1 right 1", 1, 12);
        fault("k0s0:left,1", 1, 9);
    }

    private void kindsAndSieves() {
        edges.sentence("KIND: k with its number (k0 ..), SIEVE: s with its number.");
        for (int kinds = 0; kinds <= 6; kinds++) {
            for (int kind = 0; kind <= 7; kind++) {
                String text = "k" + kind + "s0:left 3";
                if (kind < kinds) {
                    edges.due("its kind has it", good(text, kinds).eaten(0, kind, 0), 3);
                } else {
                    fault(text, kinds, 2, 0);
                }
            }
        }
        for (int sieve = 0; sieve <= 3; sieve++) {
            ShellHeap x = desk(6);
            x.kept(5, sieve, 8);
            Texts.finds(x, "k5s" + sieve + ":left 3", 0);
            edges.due("its sieve has it", x.eaten(0, 5, 1), 6);
        }
        good("k00s00:left 1");
        good("k000000000000000000000s03:left 1");
        fault("ks0:left 1", 1, 0);
        fault("k0s:left 1", 1, 2);
        fault("k 0s0:left 1", 1, 0);
        fault("k0s 0:left 1", 1, 2);
        fault("0s0:left 1", 1, 0);
        fault("k0 0:left 1", 1, 3);
        fault("K0s0:left 1", 1, 0);
        fault("k0S0:left 1", 1, 2);
        fault("kk0s0:left 1", 1, 0);
        fault("k0ss0:left 1", 1, 2);
        fault("l0s0:left 1", 1, 0);
        fault("j0s0:left 1", 1, 0);
        fault("k0r0:left 1", 1, 2);
        fault("k0t0:left 1", 1, 2);
    }

    private void partWords() {
        edges.sentence("PART: left right whole broken burnt gnawed.");
        for (String part : PlainTexts.PARTS) {
            good("k0s0:" + part + " 1");
            fault("k0s0:" + part.substring(1) + " 1", 1, 5);
            fault("k0s0:" + part.substring(0, part.length() - 1) + " 1", 1, 5);
            fault("k0s0:" + part + "s 1", 1, 5);
            fault("k0s0:a" + part + " 1", 1, 5);
            fault("k0s0:" + part.toUpperCase() + " 1", 1, 5);
        }
        fault("k0s0:leftright 1", 1, 5);
        fault("k0s0:size 1", 1, 5);
        fault("k0s0:k0 1", 1, 5);
    }

    private void numbers() {
        edges.sentence("N: 0 .. 999.");
        for (int n : new int[] {0, 1, 9, 10, 99, 100, 998, 999}) {
            edges.due("as many", good("k0s0:whole " + n, 1).eaten(0, 0, 0), n);
        }
        edges.due("zeros ahead", good("k0s0:whole 000999", 1).eaten(0, 0, 0), 999);
        edges.due("zeros alone", good("k0s0:whole 0000", 1).eaten(0, 0, 0), 0);
        edges.due("zeros as long as a text", good("k0s0:whole " + "0".repeat(686) + "999", 1).eaten(0, 0, 0), 999);
        fault("k0s0:whole 1000", 2, 11);
        fault("k0s0:whole 01000", 2, 11);
        fault("k0s0:whole 9999", 2, 11);
        // these go round to 0, 1 or below 0 in 16, 32 or 64 bits
        for (String round : new String[] {"65536", "2147483648", "4294967295", "4294967296", "4294967297",
            "9223372036854775808", "18446744073709551616", "340282366920938463463374607431768211456"}) {
            fault("k0s0:whole " + round, 2, 11);
        }
        fault("k0s0:whole " + "9".repeat(689), 2, 11);
        fault("k0s0:whole -1", 1, 11);
        fault("k0s0:whole +1", 1, 11);
    }

    /** Every byte there is between two tokens that could stand without one. */
    private void blanks() {
        edges.sentence("Blanks 10, 32.");
        for (int sign = 0; sign < 256; sign++) {
            String text = Signs.between("k0", sign, "s0:left 1");
            if (Signs.isBlank(sign) || sign == '0') {
                good(text);
            } else if (Signs.isDigit(sign)) {
                fault(text, 2, 0);
            } else {
                fault(text, 1, 2);
            }
        }
        good("\n k0 \n\n s0 \n : \n left \n 1 \n , \n right \n 2 \n ; \n ");
        good("k0s0:left 1,right 2;k0s1:left 3;");
    }

    private void tokensBehindWords() {
        edges.sentence("Words and what begins with k, s: small letters and then digits in a row; N digits.");
        for (int sign = 0; sign < 256; sign++) {
            String text = Signs.between("k0s0:left", sign, "1");
            if (Signs.isBlank(sign)) {
                good(text);
            } else {
                fault(text, 1, Signs.isSmall(sign) || Signs.isDigit(sign) ? 5 : 9);
            }
            String first = Signs.between("", sign, "0s0:left 1");
            if (sign == 'k') {
                good(first);
            } else {
                fault(first, 1, Signs.isBlank(sign) ? 1 : 0);
            }
        }
    }

    private void tokensBehindNumbers() {
        for (int sign = 0; sign < 256; sign++) {
            String text = Signs.between("k0s0:left 1", sign, "");
            if (Signs.isBlank(sign) || sign == ';') {
                good(text);
            } else if (Signs.isDigit(sign)) {
                edges.due("digits in a row", good(text, 1).eaten(0, 0, 0), 10 + sign - '0');
            } else {
                fault(text, 1, sign == ',' ? 12 : 11);
            }
        }
        fault("k0s0:left 1 2", 1, 12);
        fault("k0s0:left 1right 2", 1, 11);
        fault("k0x0s0:left 1", 1, 2);
    }

    private void firstFault() {
        edges.sentence("FAULTS, the first along the text (of one place the least), with its place:");
        fault("k9s9:left 1000,left 1,&", 2, 0);
        fault("k0s9:left 1000,left 1,&", 2, 2);
        fault("k0s0:left 1000,left 1,&", 2, 10);
        fault("k0s0:left 1,left 1000,&", 3, 12);
        fault("k0s0:left 1,&,left 1000", 1, 12);
        fault("k0s0:left 1;k9s0:left 1;", 2, 12);
        fault("k0s0:left 1,left 1;k9s0:&", 3, 12);
        // what can't stand there is 1, even if it were too much somewhere else
        fault("s9k9:left 1", 1, 0);
        fault("k0k9:left 1", 1, 2);
        fault("k0s0:k9 1", 1, 5);
        fault("k0s0:1000", 1, 5);
        fault("k0s0:left 1 1000", 1, 12);
        fault("k0s0:left 1,k9", 1, 12);
        fault("k0s0:left s9", 1, 10);
        fault("k0s0:left 1;s9", 1, 12);
    }

    private void faultAtTheEnd() {
        edges.sentence("1 a TOKEN that is none or can't stand there (the length, if more must come).");
        String text = "k0 s0:left 12,right 3;";
        int good = -1;
        int[] places = {0, 0, 2, 3, 3, 5, 6, 6, 6, 6, 10, 11, good, good, 14, 14, 14, 14, 14, 19, 20, good, good};
        for (int n = 0; n <= text.length(); n++) {
            if (places[n] == good) {
                good(text.substring(0, n));
            } else {
                fault(text.substring(0, n), 1, places[n]);
            }
        }
        for (int n = 0; n <= text.length(); n++) {
            ShellHeap x = desk(1);
            Texts.feed(x, text);
            edges.due("the first " + n + " of more bytes", x.finds(n, 0), places[n] == good ? 0 : -1);
            edges.due("their place", x.fault(1), places[n]);
        }
        fault("k0 s0:left \n", 1, 12);
        for (String none : new String[] {"&", "{", "`", "/", "@", "[", "Z", "_", "\u00e9", "\u0000", "\u00ff", "\t", "\r"}) {
            fault("k0 s0:" + none + "left 1", 1, 6);
            fault("k0 s0:left 1 " + none, 1, 13);
        }
    }

    private void faultOfMuch() {
        edges.sentence("2 a number beyond what is said, a KIND that there is not, a SIEVE above 3 (at it).");
        fault("k0s0:left 999,right 1000", 2, 20);
        fault("k0s0:left 999;k1s0:left 1", 2, 14);
        fault("k0s0:left 999;\nk0\ns4:left 1", 2, 18);
        for (String round : new String[] {"4", "5", "10", "256", "65536", "4294967296", "18446744073709551616"}) {
            fault("k0s" + round + ":left 1", 2, 2);
        }
        for (String round : new String[] {"6", "10", "256", "65536", "4294967296", "18446744073709551616"}) {
            fault("k" + round + "s0:left 1", 6, 2, 0);
        }
        fault("k0s0:left 1", 0, 2, 0);
    }

    private void faultOfToldParts() {
        edges.sentence("3 a PART told already in this FIND (at it).");
        for (String part : PlainTexts.PARTS) {
            fault("k0s0:" + part + " 0," + part + " 0", 3, 8 + part.length());
            good("k0s0:" + part + " 0;k0s0:" + part + " 0");
            String other = part.equals("left") ? "right" : "left";
            fault("k0s0:" + part + " 0," + other + " 0, " + part, 3, 12 + part.length() + other.length());
        }
    }

    private void feedCall() {
        edges.sentence("`int feed(int a, int b, int c, int d, int e)`: Twenty bytes come behind the TAPE, four of each number, the highest first: how many it has; NONE, and none come, if it would have more than 700.");
        ShellHeap x = desk(1);
        for (int i = 1; i <= 35; i++) {
            edges.due("twenty more", x.feed(BLANKS, BLANKS, BLANKS, BLANKS, BLANKS), 20 * i);
        }
        edges.due("none above 700", x.feed(0x26262626, 0x26262626, 0x26262626, 0x26262626, 0x26262626), -1);
        edges.due("and again", x.feed(-1, -1, -1, -1, -1), -1);
        edges.due("not 720", x.rules(720), -2);
        edges.due("not 701", x.rules(701), -2);
        edges.due("700 blanks: none came over them", x.rules(700), 0);
        edges.due("empty again", x.rules(1), -2);
        int[] five = {0x6b307330, 0x3a6c6566, 0x74203132, 0x333b2020, 0x20202020};
        edges.due("the first twenty", x.feed(five[0], five[1], five[2], five[3], five[4]), 20);
        edges.due("the highest byte first", x.finds(20, 0), 0);
        edges.due("left 123", x.eaten(0, 0, 0), 123);
        for (int place = 0; place < 20; place++) {
            int[] spoilt = new int[5];
            java.util.Arrays.fill(spoilt, BLANKS);
            spoilt[place / 4] |= 0xff << 24 - 8 * (place % 4);
            ShellHeap y = new ShellHeap();
            y.feed(BLANKS, BLANKS, BLANKS, BLANKS, BLANKS);
            edges.due("behind the tape", y.feed(spoilt[0], spoilt[1], spoilt[2], spoilt[3], spoilt[4]), 40);
            edges.due("a byte of 255", y.rules(40), -1);
            edges.due("its place", y.fault(1), 20 + place);
        }
    }

    private void findsCall() {
        edges.sentence("`int finds(int n, int layer)`: They are FINDS of a LAYER: the NOTE's number; NONE with a FAULT; -2, and the TAPE stays: as above, no such LAYER, or there are 80.");
        ShellHeap x = desk(1);
        x.note(0, 1, 0, 0);
        Texts.feed(x, "k0s0:left 5;k0s0:left 7");
        edges.due("the first bytes alone", x.finds(11, 1), 1);
        edges.due("are read", x.eaten(1, 0, 0), 5);
        edges.due("of their layer alone", x.eaten(0, 0, 0), 0);
        edges.due("the tape is empty then", x.finds(1, 1), -2);
        edges.due("the empty text has a fault", x.finds(0, 1), -1);
        edges.due("none of it", x.count(2), 2);
        edges.due("the next note", Texts.finds(x, "k0s0:left 1", 1), 2);
        edges.due("more of them", x.eaten(1, 0, 0), 6);
    }

    private void findsRefused() {
        ShellHeap x = desk(1);
        Texts.finds(x, "k0s0:left", 0);
        Texts.feed(x, "k0s0:left 5;k0s0:left 7");
        for (int n : Edges.beyond(0, 40)) {
            edges.due("n " + n, x.finds(n, 0), -2);
        }
        for (int layer : Edges.beyond(0, 1)) {
            edges.due("layer " + layer, x.finds(23, layer), -2);
            edges.due("layer " + layer + " with an empty text", x.finds(0, layer), -2);
        }
        edges.due("the latest fault stays", x.fault(0), 1);
        edges.due("and its place", x.fault(1), 9);
        edges.due("no note", x.count(2), 0);
        edges.due("the tape stays", x.finds(40, 1), 0);
        edges.due("all of it", x.eaten(1, 0, 0), 12);
        ShellHeap full = desk(1);
        for (int i = 0; i < 80; i++) {
            full.note(3, 0, 0, 1);
        }
        Texts.feed(full, "cause a: 1;");
        edges.due("there are 80", full.finds(11, 0), -2);
        edges.due("there are 80, and an empty text", full.finds(0, 0), -2);
        edges.due("no fault", full.fault(0), 0);
        edges.due("the tape stays", full.rules(11), 1);
        ShellHeap last = desk(1);
        for (int i = 0; i < 79; i++) {
            last.note(3, 0, 0, 1);
        }
        edges.due("a fault with 79", Texts.finds(last, "k0s0:left", 0), -1);
        edges.due("79 stay", last.count(2), 79);
        edges.due("the eightieth", Texts.finds(last, "k0s0:left 9", 0), 79);
        edges.due("is read", last.eaten(0, 0, 0), 9);
    }

    /** What a text told ahead of its fault is not kept, neither then nor for the next text. */
    private void findsWithAFault() {
        for (String part : PlainTexts.PARTS) {
            ShellHeap x = desk(1);
            String spoilt = "k0s0:" + part + " 9;k0s3:" + part + " 9;&";
            edges.due(spoilt, Texts.finds(x, spoilt, 0), -1);
            edges.due("nothing of " + part, x.eaten(0, 0, 0), 0);
            edges.due("the next text", Texts.finds(x, "k0s1:broken 1", 0), 0);
            edges.due("none of " + part + " but its own", x.eaten(0, 0, 0), 0);
            edges.due("nothing gnawed", x.eaten(0, 0, 3), 0);
            Texts.finds(x, "k0s1:gnawed 1", 0);
            edges.due("two in all", x.eaten(0, 0, 3), 500);
        }
    }

    private void faultCall() {
        edges.sentence("`int fault(int what)`: Of the latest rules() or finds() that was not -2, what 0: its FAULT (0), 1: its place (NONE without). NONE for another what.");
        ShellHeap x = desk(1);
        faultIs(x, "of none", 0, -1);
        Texts.finds(x, "k0s4:left 1", 0);
        faultIs(x, "of finds", 2, 2);
        x.rules(1);
        x.rules(-1);
        x.finds(1, 0);
        x.finds(0, 2);
        faultIs(x, "of -2 none is", 2, 2);
        Texts.feed(x, "cause a: 1; cause a: 2;");
        faultIs(x, "of a feed none is", 2, 2);
        x.rules(23);
        faultIs(x, "of rules", 3, 18);
        Texts.finds(x, "k0s0:left 1", 0);
        faultIs(x, "of finds without", 0, -1);
        x.rules(0);
        faultIs(x, "of rules without", 0, -1);
        x.finds(0, 0);
        faultIs(x, "at place 0", 1, 0);
        Texts.rules(x, "cause a: 1;");
        faultIs(x, "none again", 0, -1);
    }

    private void faultIs(ShellHeap x, String what, int sort, int place) {
        edges.due(what + ": sort", x.fault(0), sort);
        edges.due(what + ": place", x.fault(1), place);
        for (int other : Edges.beyond(0, 1)) {
            edges.due(what + ": what " + other, x.fault(other), -1);
        }
    }
}
