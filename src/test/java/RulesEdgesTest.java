import java.util.List;

/** The edges of RULES as a text, and of promise 3: words, signs, what is too much and where a fault stands. */
final class RulesEdgesTest {
    private static final List<String> WORDS = List.of("cause", "then", "not", "and", "or");
    private static final List<String> COMPARISONS = List.of("<", "<=", "=", "<>", ">=", ">");
    private static final List<String> JOINS = List.of("+", "-", "*", "/", "<", "<=", "=", "<>", ">=", ">", "and", "or");

    private final Edges edges = new Edges();

    public static void main(String[] args) {
        RulesEdgesTest test = new RulesEdgesTest();
        test.causesInARow();
        test.titles();
        test.sixCauses();
        test.orAndNot();
        test.comparisons();
        test.sums();
        test.binding();
        test.parts();
        test.deepest();
        test.names();
        test.numbers();
        test.wordsAndDigits();
        test.blanksAndSigns();
        test.faultAtTheEnd();
        test.firstFault();
        test.nineOpen();
        test.knotsOfJoins();
        test.knotsOfParts();
        test.sevenCauses();
        test.titlesTwice();
        test.rulesCall();
        test.rulesRefused();
        test.rulesAnew();
        test.edges.end();
    }

    private void good(String text, int causes) {
        ShellHeap x = new ShellHeap();
        edges.due("\"" + text + "\"", Texts.rules(x, text), causes);
        edges.due("no fault in \"" + text + "\"", x.fault(0), 0);
        edges.due("no place in \"" + text + "\"", x.fault(1), -1);
        edges.due("causes of \"" + text + "\"", x.count(6), causes);
    }

    private void good(String text) {
        good(text, 1);
    }

    private void fault(String text, int sort, int place) {
        ShellHeap x = new ShellHeap();
        edges.due("\"" + text + "\"", Texts.rules(x, text), -1);
        edges.due("fault of \"" + text + "\"", x.fault(0), sort);
        edges.due("place in \"" + text + "\"", x.fault(1), place);
        edges.due("no causes of \"" + text + "\"", x.count(6), 0);
        edges.due("no knots of \"" + text + "\"", x.count(7), 0);
    }

    private void knots(String text, int knots) {
        ShellHeap x = new ShellHeap();
        edges.due("\"" + text + "\"", Texts.rules(x, text) > 0, true);
        edges.due("knots of \"" + text + "\"", x.count(7), knots);
    }

    private static String e(String text) {
        return "cause a:" + text + ";";
    }

    private void causesInARow() {
        edges.sentence("RULES, a TEXT: { cause W ':' E ';' }.");
        good("", 0);
        good(" ", 0);
        good("\n".repeat(700), 0);
        good("cause a:1;", 1);
        good("cause a:1;cause b:1;", 2);
        good("cause a:" + " ".repeat(690) + "1;", 1);
        fault(";", 1, 0);
        fault("cause a:1", 1, 9);
        fault("cause a:1;;", 1, 10);
        fault("cause a:1 cause b:1;", 1, 10);
        fault("cause a 1;", 1, 8);
        fault("cause a::1;", 1, 8);
        fault("cause a:;", 1, 8);
        fault("cause:1;", 1, 5);
        fault("a:1;", 1, 0);
        fault("1;", 1, 0);
        fault(":", 1, 0);
        fault("cause cause a:1;", 1, 6);
        fault("cause a b:1;", 1, 8);
    }

    private void titles() {
        edges.sentence("W: a word of 1 .. 8 small letters, none of the language's; 6 CAUSES at most, no W twice.");
        for (int length = 1; length <= 8; length++) {
            good("cause " + "z".repeat(length) + ":1;");
            good("cause " + "a".repeat(length) + ":1;");
        }
        for (int length : new int[] {9, 10, 16, 256, 690}) {
            fault("cause " + "z".repeat(length) + ":1;", 1, 6);
        }
        fault("cause A:1;", 1, 6);
        fault("cause aB:1;", 1, 7);
        fault("cause 1:1;", 1, 6);
        fault("cause (a):1;", 1, 6);
        for (String word : WORDS) {
            languageWord(word);
        }
        for (String word : PlainTexts.NAMES) {
            languageWord(word);
        }
        for (String part : PlainTexts.PARTS) {
            good("cause " + part + ":1;");
        }
        good("cause abcdefgh:1;cause abcdefg:1;cause bcdefgh:1;cause abcdefgi:1;", 4);
    }

    private void languageWord(String word) {
        fault("cause " + word + ":1;", 1, 6);
        good("cause " + word + "a:1;");
        good("cause a" + word + ":1;");
        good("cause " + word.substring(1) + ":1;");
    }

    private static String causes(int many) {
        StringBuilder text = new StringBuilder();
        for (int i = 0; i < many; i++) {
            text.append("cause ").append((char) ('a' + i)).append(":1;");
        }
        return text.toString();
    }

    private void sixCauses() {
        for (int many = 0; many <= 6; many++) {
            good(causes(many), many);
        }
        fault(causes(7), 2, 60);
        fault("cause a:1;cause a:1;", 3, 16);
    }

    private void orAndNot() {
        edges.sentence("E: A { or A }. A: B { and B }. B: not B | C.");
        good(e("1 or 1"));
        good(e("1 and 1"));
        good(e("1 or 1 and 1 or not 1 and not not 1"));
        good(e("not not not 1"));
        good(e("not(1)"));
        good(e("(not 1)or(1)and(1)"));
        fault(e("or 1"), 1, 8);
        fault(e("and 1"), 1, 8);
        fault(e("1 or"), 1, 12);
        fault(e("1 and"), 1, 13);
        fault(e("1 or or 1"), 1, 13);
        fault(e("1 and or 1"), 1, 14);
        fault(e("1 not 1"), 1, 10);
        fault(e("not"), 1, 11);
        fault(e("not or 1"), 1, 12);
        fault(e("not )"), 1, 12);
        for (String join : JOINS) {
            String text = "cause a:1 " + join + " ";
            if (join.equals("and") || join.equals("or")) {
                good(text + "not 1;");
                good(text + "not not 1;");
            } else {
                fault(text + "not 1;", 1, text.length());
            }
            good(text + "(not 1);");
        }
    }

    private void worth(String text, long due) {
        ShellHeap x = Desks.withLayers(1);
        edges.due("\"" + text + "\" is read", Texts.rules(x, e(text)), 1);
        edges.due(text, x.cause(0, 0), due);
    }

    /** What binds more tightly is worked out ahead, what binds alike from the left on. */
    private void binding() {
        worth("1 or 1 and 0", 1);
        worth("0 and 0 or 1", 1);
        worth("(1 or 1) and 0", 0);
        worth("0 and (0 or 1)", 0);
        worth("not 0 and 0", 0);
        worth("not (0 and 0)", 1);
        worth("not 1 or 1", 1);
        worth("not (1 or 1)", 0);
        worth("not 1 < 1", 1);
        worth("(not 1) < 1", 1);
        worth("not 2 = 1", 1);
        worth("(not 2) = 1", 0);
        worth("2 = 1 + 1", 1);
        worth("(2 = 1) + 1", 1);
        worth("3 < 1 + 1", 0);
        worth("2 and 1 = 1", 1);
        worth("2 = 2 and 2", 1);
        worth("1 + 2 * 3", 7);
        worth("2 * 3 + 1", 7);
        worth("8 - 4 / 2", 6);
        worth("9 - 4 - 2", 3);
        worth("9 - (4 - 2)", 7);
        worth("9 - 4 + 2", 7);
        worth("16 / 4 / 2", 2);
        worth("16 / (4 / 2)", 8);
        worth("16 / 4 * 2", 8);
        worth("7 * 3 / 2", 10);
        worth("3 / 2 * 7", 7);
    }

    /** As much as may wait for its right side: 95 knots and eight open, and each of them is worked out. */
    private void deepest() {
        for (int nots = 80; nots <= 95; nots++) {
            worth("not ".repeat(nots) + "1", (nots + 1) % 2);
            worth("(".repeat(8) + "not ".repeat(nots) + "1" + ")".repeat(8), (nots + 1) % 2);
            worth("not ".repeat(nots) + "(".repeat(8) + "1" + ")".repeat(8), (nots + 1) % 2);
        }
        worth("1" + "+1".repeat(47), 48);
        worth("1" + "-1".repeat(47), -46);
        worth("1-(".repeat(8) + "1" + ")".repeat(8), 1);
        worth("1-(".repeat(7) + "1" + ")".repeat(7), 0);
        worth("1 or 0 and 1<1+1*(".repeat(8) + "1" + ")".repeat(8), 1);
        worth("0 or 1 and 1<1+1*(".repeat(8) + "1" + ")".repeat(8), 1);
        worth("0 or 1 and 1<0+1*(".repeat(8) + "1" + ")".repeat(8), 0);
    }

    private void comparisons() {
        edges.sentence("C: S [ ( < | <= | = | <> | >= | > ) S ].");
        for (String first : COMPARISONS) {
            good(e("1 " + first + " 2"));
            fault(e(first + " 2"), 1, 8);
            fault(e("1 " + first), 1, 10 + first.length());
            for (String second : COMPARISONS) {
                fault(e("1 " + first + " 2 " + second + " 3"), 1, 13 + first.length());
                fault(e("1 " + first + " 2+3 " + second + " 3"), 1, 15 + first.length());
                fault(e("1 " + first + " 2*3 " + second + " 3"), 1, 15 + first.length());
                fault(e("1 " + first + " (2) " + second + " 3"), 1, 15 + first.length());
                fault(e("not 1 " + first + " 2 " + second + " 3"), 1, 17 + first.length());
                good(e("(1 " + first + " 2) " + second + " 3"));
                good(e("1 " + first + " (2 " + second + " 3)"));
                good(e("1 " + first + " 2 and 2 " + second + " 3"));
                good(e("1 " + first + " 2 or 2 " + second + " 3"));
            }
        }
    }

    private void sums() {
        edges.sentence("S: T { ( + | - ) T }. T: P { ( * | / ) P }.");
        for (String first : List.of("+", "-", "*", "/")) {
            good(e("1" + first + "2"));
            fault(e(first + "2"), 1, 8);
            fault(e("1" + first), 1, 10);
            fault(e("(" + first + "2)"), 1, 9);
            for (String second : List.of("+", "-", "*", "/")) {
                good(e("1" + first + "2" + second + "3"));
                fault(e("1" + first + second + "3"), 1, 10);
            }
        }
    }

    private void parts() {
        edges.sentence("P: N | NAME | then NAME | '(' E ')'.");
        good(e("1"));
        good(e("size"));
        good(e("then size"));
        good(e("(1)"));
        good(e("(1 or not 1 < 2)"));
        fault(e("then"), 1, 12);
        fault(e("then 1"), 1, 13);
        fault(e("then (size)"), 1, 13);
        fault(e("then then size"), 1, 13);
        fault(e("then not size"), 1, 13);
        fault(e("then sizes"), 1, 13);
        fault(e("()"), 1, 9);
        fault(e("(1"), 1, 10);
        fault(e("1)"), 1, 9);
        fault(e("(1))"), 1, 11);
        fault(e("(1)(1)"), 1, 11);
        fault(e("1 1"), 1, 10);
        fault(e("1 size"), 1, 10);
        fault(e("size 1"), 1, 13);
        fault(e("size then size"), 1, 13);
        fault(e("1(1)"), 1, 9);
        fault(e("(1;"), 1, 10);
        fault(e(")"), 1, 8);
    }

    private void names() {
        edges.sentence("NAME: size age growth days season rank lost holds number food.");
        for (String name : PlainTexts.NAMES) {
            good(e(name));
            good(e("then " + name));
            fault(e(name + "s"), 1, 8);
            fault(e(name.substring(1)), 1, 8);
            fault(e(name.substring(0, name.length() - 1)), 1, 8);
            fault(e(name.toUpperCase()), 1, 8);
            fault(e("then " + name + "s"), 1, 13);
        }
        for (String word : List.of("cause", "left", "a", "sizeage", "stay", "meat")) {
            fault(e(word), 1, 8);
        }
    }

    private void numbers() {
        edges.sentence("N: digits, 0 .. 99999.");
        for (String number : List.of("0", "1", "9", "10", "99998", "99999", "00000", "0000099999", "0".repeat(685) + "99999")) {
            good(e(number));
        }
        for (String number : List.of("100000", "0100000", "999999", "1000000", "10000000000", "9".repeat(690))) {
            fault(e(number), 2, 8);
        }
        // these go round to 0 or 1 in 32 or 64 bits
        for (String number : List.of("4294967296", "4294967297", "18446744073709551616", "18446744073709551617")) {
            fault(e(number), 2, 8);
        }
        fault(e("-1"), 1, 8);
        fault(e("1.5"), 1, 9);
    }

    private void wordsAndDigits() {
        edges.sentence("Words here are small letters alone (a digit right behind begins another TOKEN).");
        fault("cause a1:1;", 1, 7);
        fault("cause1 a:1;", 1, 5);
        fault(e("size1"), 1, 12);
        fault(e("1size"), 1, 9);
        fault(e("then1"), 1, 12);
        good(e("not1and2or3"));
        good(e("1and size or 2"));
        fault(e("1andsize"), 1, 9);
        for (int sign = 0; sign < 256; sign++) {
            String title = Signs.between("cause a", sign, ":1;");
            if (Signs.isSmall(sign) || Signs.isBlank(sign)) {
                good(title);
            } else {
                fault(title, 1, sign == ':' ? 8 : 7);
            }
            String cause = Signs.between("cause", sign, "a:1;");
            if (Signs.isBlank(sign)) {
                good(cause);
            } else {
                fault(cause, 1, Signs.isSmall(sign) ? 0 : 5);
            }
        }
    }

    private void blanksAndSigns() {
        edges.sentence("Blanks likewise; a = or > right behind < or > belongs to it.");
        for (int sign = 0; sign < 256; sign++) {
            String text = Signs.between("cause a:1", sign, "2;");
            if (Signs.isDigit(sign) || "+-*/<=>".indexOf(sign) >= 0) {
                good(text);
            } else {
                fault(text, 1, Signs.isBlank(sign) || sign == ';' ? 10 : 9);
            }
            String first = Signs.between("", sign, "cause a:1;");
            if (Signs.isBlank(sign)) {
                good(first);
            } else {
                fault(first, 1, 0);
            }
        }
        String signs = "+-*/<=>";
        for (char first : signs.toCharArray()) {
            for (char second : signs.toCharArray()) {
                String both = "" + first + second;
                if (COMPARISONS.contains(both)) {
                    good(e("1" + both + "2"));
                } else {
                    fault(e("1" + both + "2"), 1, both.equals(">>") ? 9 : 10);
                }
                fault(e("1" + first + " " + second + "2"), 1, 11);
                fault(e("1" + first + "\n" + second + "2"), 1, 11);
            }
        }
        good(" cause\na\n:\n(\nsize\n<=\n1\n)\n;\n");
    }

    private void faultAtTheEnd() {
        edges.sentence("FAULTS likewise: 1 as in 3. (a W of the language, or of more than 8 letters, too).");
        String text = "cause ab:not (size<=12)or then age;";
        int[] places = {-1, 0, 0, 0, 0, 5, 6, 7, 8, 9, 9, 9, 12, 13, 14, 14, 14, 14, 18, 19, 20, 21, 22, 23, 23, 25, 26, 26,
            26, 26, 30, 31, 31, 31, 34, -1};
        for (int n = 0; n <= text.length(); n++) {
            if (places[n] < 0) {
                good(text.substring(0, n), n == 0 ? 0 : 1);
            } else {
                fault(text.substring(0, n), 1, places[n]);
            }
            ShellHeap x = new ShellHeap();
            Texts.feed(x, text);
            edges.due("the first " + n + " of more bytes", x.rules(n), places[n] >= 0 ? -1 : n == 0 ? 0 : 1);
            edges.due("their place", x.fault(1), places[n]);
        }
        fault("cause a:1 \n", 1, 11);
        fault("cause size", 1, 6);
        fault("cause abcdefghi", 1, 6);
        for (String none : List.of("&", "{", "`", "@", "[", "Z", "_", "\u00e9", "\u0000", "\u00ff", "\t", "\r", ",", "!")) {
            fault("cause a:" + none + "1;", 1, 8);
            fault("cause a:1;" + none, 1, 10);
        }
    }

    private void firstFault() {
        fault("cause a:100000&;", 2, 8);
        fault("cause a:1;cause a:100000&;", 3, 16);
        fault("cause a:&100000;", 1, 8);
        fault("cause a:1;cause b:2 100000;", 1, 20);
        fault("cause a:1;cause b:2;cause b:&", 3, 26);
        fault("cause a:then 100000;", 1, 13);
        fault("cause 100000:1;", 1, 6);
    }

    private void nineOpen() {
        edges.sentence("2 too much (at it): a number, a ninth '(' open, a 97th KNOT of the whole text (N, NAME, then, signs, not, and, or: one each), a seventh CAUSE (at cause).");
        String eight = "(".repeat(8) + "1" + ")".repeat(8);
        for (int open = 0; open <= 8; open++) {
            good(e("(".repeat(open) + "1" + ")".repeat(open)));
        }
        good(e(eight + "+" + eight + "*" + eight));
        good(e(eight) + "cause b:" + eight + ";", 2);
        fault(e("(" + eight + ")"), 2, 16);
        fault(e("1+(" + eight + ")"), 2, 18);
        fault(e("(1)+(" + eight + ")"), 2, 20);
        fault(e(eight) + "cause b:(" + eight + ");", 2, 42);
        fault(e("(".repeat(7) + "(1)*((1))" + ")".repeat(7)), 2, 20);
        good(e("(".repeat(7) + "(1)*(1)" + ")".repeat(7)));
        fault(e("(".repeat(8) + "1(1"), 1, 17);
        fault("cause a:" + "(".repeat(100), 2, 16);
        fault("cause a:" + "(".repeat(8), 1, 16);
    }

    /** A whole text with just so many knots, of one cause named z. */
    private static String tied(int knots) {
        return "cause z:" + "not ".repeat(knots - 1) + "1;";
    }

    private void knotsOfJoins() {
        knots(tied(1), 1);
        knots(tied(96), 96);
        fault(tied(97), 2, 8 + 4 * 96);
        for (String join : JOINS) {
            String text = "cause a:1 " + join + " 2;";
            knots(text, 3);
            knots(tied(93) + text, 96);
            fault(tied(94) + text, 2, tied(94).length() + 11 + join.length());
            fault(tied(95) + text, 2, tied(95).length() + 10);
            fault(tied(96) + text, 2, tied(96).length() + 8);
            fault(tied(95) + "cause a:1 " + join + ";", 2, tied(95).length() + 10);
        }
        knots(tied(95) + "cause a:((((((((1))))))));", 96);
        knots("cause a:(1+2)*(size<=then size)or not(1)and 1;", 13);
    }

    private void knotsOfParts() {
        for (String name : PlainTexts.NAMES) {
            knots(e(name), 1);
            knots(e("then " + name), 2);
            knots(tied(95) + "cause a:" + name + ";", 96);
            knots(tied(94) + "cause a:then " + name + ";", 96);
            fault(tied(96) + "cause a:" + name + ";", 2, tied(96).length() + 8);
            fault(tied(95) + "cause a:then " + name + ";", 2, tied(95).length() + 13);
            fault(tied(96) + "cause a:then " + name + ";", 2, tied(96).length() + 8);
        }
        knots(tied(95) + "cause a:99999;", 96);
        fault(tied(96) + "cause a:1;", 2, tied(96).length() + 8);
        knots(tied(94) + "cause a:not 1;", 96);
        fault(tied(95) + "cause a:not 1;", 2, tied(95).length() + 12);
        fault(tied(96) + "cause a:not 1;", 2, tied(96).length() + 8);
        fault(tied(96) + "cause a:(1);", 2, tied(96).length() + 9);
        // what can't stand there is 1, even as a 97th knot
        fault(tied(96) + "cause a:+1;", 1, tied(96).length() + 8);
        fault(tied(96) + "cause a:or;", 1, tied(96).length() + 8);
        fault(tied(95) + "cause a:1 2;", 1, tied(95).length() + 10);
        fault(tied(95) + "cause a:1 size;", 1, tied(95).length() + 10);
        fault(tied(95) + "cause a:1 not 1;", 1, tied(95).length() + 10);
        fault(tied(94) + "cause a:1+not 1;", 1, tied(94).length() + 10);
        fault(tied(93) + "cause a:1<2<3;", 1, tied(93).length() + 11);
        fault(tied(95) + "cause a:then 1;", 1, tied(95).length() + 13);
        fault("cause a:100000+1;", 2, 8);
        fault(tied(96) + "cause a:100000;", 2, tied(96).length() + 8);
    }

    private void sevenCauses() {
        fault(causes(6) + "cause g:1;", 2, 60);
        fault(causes(6) + " \ncause", 2, 62);
        fault(causes(6) + "cause a:1;", 2, 60);
        fault(causes(6) + "cause size", 2, 60);
        fault(causes(6) + "causes", 1, 60);
        fault(causes(6) + "1", 1, 60);
        good(causes(6) + " \n ", 6);
    }

    private void titlesTwice() {
        edges.sentence("3 a W told already (at it).");
        for (int first = 0; first < 5; first++) {
            String text = causes(5);
            fault(text + "cause " + (char) ('a' + first) + ":1;", 3, 56);
        }
        fault("cause abcdefgh:1;cause abcdefgh:1;", 3, 23);
        good("cause abcdefgh:1;cause abcdefgi:1;cause bbcdefgh:1;", 3);
        good("cause a:1;cause aa:1;cause aaa:1;", 3);
        good("cause aaa:1;cause aa:1;cause a:1;", 3);
        fault("cause a:1;cause b:1;cause\na\n:1;", 3, 26);
    }

    private void rulesCall() {
        edges.sentence("`int rules(int n)`: The TAPE's first n bytes (it is empty then) are the RULES: how many CAUSES; NONE with a FAULT; -2, and the TAPE stays: there are not so many, n is below 0.");
        ShellHeap x = Desks.withLayers(1);
        Texts.feed(x, "cause a:5;cause b:6;");
        edges.due("the first ten bytes alone", x.rules(10), 1);
        edges.due("are the rules", x.cause(0, 0), 5);
        edges.due("the tape is empty then", x.rules(1), -2);
        Texts.feed(x, "cause a:5;cause b:6;");
        edges.due("all of it", x.rules(20), 2);
        edges.due("the second cause", x.cause(1, 0), 6);
        edges.due("no rules by an empty text", x.rules(0), 0);
        edges.due("none are left", x.count(6), 0);
        edges.due("no cause", x.cause(0, 0), Long.MIN_VALUE);
        Texts.feed(x, "cause a:7;cause b:;");
        edges.due("with a fault", x.rules(20), -1);
        edges.due("the tape is empty then, too", x.rules(1), -2);
        edges.due("no new rules", x.count(6), 0);
        Texts.feed(x, "cause a:8;");
        edges.due("nothing of it by an n of 0", x.rules(0), 0);
        edges.due("and the tape is empty", x.rules(10), -2);
    }

    private void rulesRefused() {
        ShellHeap x = Desks.withLayers(1);
        edges.due("n 1 of an empty tape", x.rules(1), -2);
        Texts.rules(x, "cause a:5;");
        Texts.feed(x, "cause b:6;cause c:7;");
        for (int n : Edges.beyond(0, 20)) {
            edges.due("n " + n, x.rules(n), -2);
            edges.due("the rules stay", x.cause(0, 0), 5);
            edges.due("no fault", x.fault(0), 0);
        }
        edges.due("the tape stays", x.rules(20), 2);
        edges.due("all of it", x.cause(1, 0), 7);
        ShellHeap full = new ShellHeap();
        String longest = " ".repeat(640) + causes(6);
        Texts.feed(full, longest);
        edges.due("n 701", full.rules(701), -2);
        edges.due("n 700", full.rules(700), 6);
    }

    /** Whatever a text left open, or told ahead of its fault, is nothing to the next text. */
    private void rulesAnew() {
        edges.sentence("are the RULES: how many CAUSES; NONE with a FAULT;");
        ShellHeap x = Desks.withLayers(1);
        for (String spoilt : List.of("cause a:((((((((", "cause a:1+2*(not 3", "cause a:not not not", "cause a:1<2 and 3-", "cause a:1;cause b",
                "cause b:1;cause b:", "cause a:1/0;cause c:then", "cause a:" + "not ".repeat(96), tied(96) + "1", causes(6) + "cause")) {
            edges.due("\"" + spoilt + "\"", Texts.rules(x, spoilt), -1);
            edges.due("the next text", Texts.rules(x, "cause b:((((((((5-3-1))))))));cause a:not 0;"), 2);
            edges.due("its knots", x.count(7), 7);
            edges.due("its first cause", x.cause(0, 0), 1);
            edges.due("its second cause", x.cause(1, 0), 1);
            edges.due("no third", x.cause(2, 0), Long.MIN_VALUE);
        }
        ShellHeap y = Desks.withLayers(1);
        for (int round = 0; round < 4; round++) {
            edges.due("96 knots again", Texts.rules(y, tied(96)), 1);
            edges.due("are 96", y.count(7), 96);
            edges.due("six causes again", Texts.rules(y, causes(6)), 6);
            edges.due("have 6 knots", y.count(7), 6);
            edges.due("the last of them", y.cause(5, 0), 1);
            edges.due("none again", y.rules(0), 0);
            edges.due("have none", y.count(7), 0);
        }
    }
}
