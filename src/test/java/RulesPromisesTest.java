/** Promises 3, 5, 26 and 27: rules, their faults, causes and why, with answers worked out by hand. */
final class RulesPromisesTest {
    private static final long NO = Long.MIN_VALUE;

    private final Checks checks = new Checks();

    public static void main(String[] args) {
        RulesPromisesTest test = new RulesPromisesTest();
        test.rulesRead();
        test.faultsOfPlace();
        test.faultsOfTokens();
        test.faultsOfMuch();
        test.knots();
        test.titles();
        test.rulesStay();
        test.joins();
        test.binding();
        test.limits();
        test.values();
        test.daysOfTwentyThousand();
        test.ahead();
        test.noValues();
        test.why();
        test.checks.end();
    }

    private void rulesRead() {
        ShellHeap x = new ShellHeap();
        checks.due("3: none", x.rules(0), 0);
        checks.due("3: blanks", Texts.rules(x, " \n "), 0);
        checks.due("3: one", Texts.rules(x, "cause a:1;"), 1);
        checks.due("3: six", Texts.rules(x, "cause a:1;cause b:1;cause c:1;cause d:1;cause e:1;cause f:1;"), 6);
        checks.due("28: six causes", x.count(6), 6);
        checks.due("28: six knots", x.count(7), 6);
        checks.due("3: none again", x.rules(0), 0);
        checks.due("28: no causes", x.count(6), 0);
        checks.due("28: no knots", x.count(7), 0);
    }

    private void fault(String text, int sort, int place) {
        ShellHeap x = new ShellHeap();
        checks.due("3: \"" + text + "\"", Texts.rules(x, text), -1);
        checks.due("5: fault of \"" + text + "\"", x.fault(0), sort);
        checks.due("5: place in \"" + text + "\"", x.fault(1), place);
        checks.due("3: the tape is empty after \"" + text + "\"", x.feed(0, 0, 0, 0, 0), 20);
    }

    private void good(String text, int knots) {
        ShellHeap x = new ShellHeap();
        Texts.rules(x, text);
        checks.due("5: no fault in \"" + text + "\"", x.fault(0), 0);
        checks.due("5: no place in \"" + text + "\"", x.fault(1), -1);
        checks.due("28: knots of \"" + text + "\"", x.count(7), knots);
    }

    private void faultsOfPlace() {
        fault("cause", 1, 5);
        fault("cause ", 1, 6);
        fault("cause a", 1, 7);
        fault("cause a:", 1, 8);
        fault("cause a:1", 1, 9);
        fault("cause a:1 ", 1, 10);
        fault("cause a:;", 1, 8);
        fault("cause a:1;;", 1, 10);
        fault("a:1;", 1, 0);
        fault("cause :1;", 1, 6);
        fault("cause a 1;", 1, 8);
        fault("cause a:1 2;", 1, 10);
        fault("cause a:1+;", 1, 10);
        fault("cause a:+1;", 1, 8);
        fault("cause a:-1;", 1, 8);
        fault("cause a:1<2<3;", 1, 11);
        fault("cause a:1<2=(3);", 1, 11);
        fault("cause a:1+not 2;", 1, 10);
        fault("cause a:1<not 2;", 1, 10);
        fault("cause a:1*not 2;", 1, 10);
        fault("cause a:1 not 2;", 1, 10);
        fault("cause a:not;", 1, 11);
        fault("cause a:not and 1;", 1, 12);
        fault("cause a:then 5;", 1, 13);
        fault("cause a:then then size;", 1, 13);
        fault("cause a:then (size);", 1, 13);
        fault("cause a:then;", 1, 12);
        fault("cause a:then", 1, 12);
        fault("cause a:();", 1, 9);
        fault("cause a:(1;", 1, 10);
        fault("cause a:(1", 1, 10);
        fault("cause a:1);", 1, 9);
        fault("cause a:(1));", 1, 11);
        fault("cause a:(1)(2);", 1, 11);
        fault("cause a:1 size;", 1, 10);
        fault("cause a:wood;", 1, 8);
        fault("cause a:cause;", 1, 8);
        fault("cause a:1;wood", 1, 10);
        fault("cause a:1 and or 2;", 1, 14);
    }

    private void faultsOfTokens() {
        fault("Cause a:1;", 1, 0);
        fault("causes a:1;", 1, 0);
        fault("cause a1:1;", 1, 7);
        fault("cause a:1>>2;", 1, 9);
        fault("cause a:1<==2;", 1, 11);
        fault("cause a:1<>=2;", 1, 11);
        fault("cause a:1==2;", 1, 10);
        fault("cause a:1=<2;", 1, 10);
        fault("cause a:1< =2;", 1, 11);
        fault("cause a:1<", 1, 10);
        fault("cause a:1&2;", 1, 9);
        fault("cause a:1\t;", 1, 9);
        fault("cause a:1\u00ff;", 1, 9);
        fault("cause a:\u0000;", 1, 8);
        good("cause a:1and2or3;", 5);
        good("cause a:not1;", 2);
        good("cause a:then\nsize;", 2);
        good("cause a : size<=1 ; cause b:1<>2;cause c:1>=2;cause d:1>2;cause e:1=2;cause f:1<2;", 18);
    }

    private void faultsOfMuch() {
        good("cause a:99999;", 1);
        good("cause a:00000000000000099999;", 1);
        fault("cause a:100000;", 2, 8);
        fault("cause a:1+4294967297;", 2, 10);
        fault("cause a:1 100000;", 1, 10);
        good("cause a:((((((((1))))))));", 1);
        good("cause a:((((((((1))))))))+((((((((1))))))));", 3);
        fault("cause a:(((((((((1)))))))));", 2, 16);
        fault("cause a:1+(((((((((1)))))))));", 2, 18);
        fault("cause a:((((((((1(", 1, 17);
        fault("cause a:1;cause b:1;cause c:1;cause d:1;cause e:1;cause f:1;cause g:1;", 2, 60);
        fault("cause a:1;cause b:1;cause c:1;cause d:1;cause e:1;cause f:1;cause", 2, 60);
        fault("cause a:1;cause b:1;cause c:1;cause d:1;cause e:1;cause f:1;x", 1, 60);
    }

    private void knots() {
        String all = "cause a:1" + "+1".repeat(47);
        good(all + ";", 95);
        good(all + ";cause b:1;", 96);
        fault(all + ";cause b:(12);cause c:1;", 2, all.length() + 22);
        fault(all + "+1;", 2, all.length() + 1);
        fault(all + "<1;", 2, all.length() + 1);
        fault(all + " and 1;", 2, all.length() + 5);
        fault(all + ";cause b:not 1;", 2, all.length() + 13);
        fault(all + ";cause b:then size;", 2, all.length() + 14);
        fault(all + ";cause b:then 1;", 1, all.length() + 14);
        String full = all + ";cause b:1";
        fault(full + "+", 2, full.length());
        fault(full + "<2;", 2, full.length());
        fault(full + " or 2;", 2, full.length() + 1);
        fault(full + " 2;", 1, full.length() + 1);
        fault(full + ";cause c:then", 2, full.length() + 9);
        fault(full + ";cause c:not", 2, full.length() + 9);
        fault(full + ";cause c:rank", 2, full.length() + 9);
        fault(full + ";cause c:(((((((((", 2, full.length() + 17);
        fault("cause a:1<2" + "<", 1, 11);
        String compared = "cause a:" + "not ".repeat(93) + "1<2";
        good(compared + ";", 96);
        fault(compared + "<3;", 1, compared.length());
        fault(compared + "+3;", 2, compared.length());
    }

    private void titles() {
        good("cause abcdefgh:1;", 1);
        fault("cause abcdefghi:1;", 1, 6);
        good("cause left:1;cause k:1;cause siz:1;cause sizes:1;", 4);
        String[] words = {"cause", "then", "not", "and", "or", "size", "age", "growth", "days", "season", "rank", "lost",
            "holds", "number", "food"};
        for (String word : words) {
            fault("cause " + word + ":1;", 1, 6);
        }
        fault("cause a:1;cause a:1;", 3, 16);
        fault("cause ab:1;cause a:1;cause b:2;cause ab", 3, 37);
        fault("cause a:1;cause b:1;cause b", 3, 26);
        fault("cause 1:1;", 1, 6);
    }

    private void rulesStay() {
        ShellHeap x = Desks.withLayers(1);
        Texts.rules(x, "cause a:7;cause b:0;");
        checks.due("3: a text with a fault", Texts.rules(x, "cause c:8;cause d:9;cause e:"), -1);
        checks.due("28: leaves the rules that stand", x.count(6), 2);
        checks.due("28: and their knots", x.count(7), 2);
        checks.due("26: and what they are worth", x.cause(0, 0), 7);
        checks.due("27: and why", x.why(0), 0);
        Texts.feed(x, "cause c:8;");
        checks.due("3: refused", x.rules(21), -2);
        checks.due("26: the rules stay then, too", x.cause(0, 0), 7);
        checks.due("3: the next ones", x.rules(10), 1);
        checks.due("26: are worth something else", x.cause(0, 0), 8);
        checks.due("26: and are fewer", x.cause(1, 0), NO);
    }

    private void worth(String text, long due) {
        ShellHeap x = Desks.withLayers(1);
        checks.due("3: \"" + text + "\"", Texts.rules(x, "cause a:" + text + ";"), 1);
        checks.due("26: " + text, x.cause(0, 0), due);
    }

    private void joins() {
        worth("7", 7);
        worth("3+4", 7);
        worth("3-4", -1);
        worth("3*4", 12);
        worth("7/2", 3);
        worth("(0-7)/2", -3);
        worth("7/(0-2)", -3);
        worth("(0-7)/(0-2)", 3);
        worth("0/5", 0);
        int[][] pairs = {{1, 2}, {2, 2}, {2, 1}};
        for (int[] p : pairs) {
            worth(p[0] + "<" + p[1], p[0] < p[1] ? 1 : 0);
            worth(p[0] + "<=" + p[1], p[0] <= p[1] ? 1 : 0);
            worth(p[0] + "=" + p[1], p[0] == p[1] ? 1 : 0);
            worth(p[0] + "<>" + p[1], p[0] != p[1] ? 1 : 0);
            worth(p[0] + ">=" + p[1], p[0] >= p[1] ? 1 : 0);
            worth(p[0] + ">" + p[1], p[0] > p[1] ? 1 : 0);
        }
        worth("5 and 7", 1);
        worth("5 and 0", 0);
        worth("0 and 5", 0);
        worth("0 or 7", 1);
        worth("7 or 0", 1);
        worth("0 or 0", 0);
        worth("not 7", 0);
        worth("not 0", 1);
        worth("not not 7", 1);
        worth("not(0-1)", 0);
        worth("(0-1) and (0-1)", 1);
    }

    private void binding() {
        worth("1+2*3", 7);
        worth("(1+2)*3", 9);
        worth("7-2-1", 4);
        worth("7-(2-1)", 6);
        worth("16/4/2", 2);
        worth("16/4*2", 8);
        worth("7*2/4", 3);
        worth("2*3+4*5-6/2", 23);
        worth("1+1<1+2", 1);
        worth("not 1<2", 0);
        worth("not 2<1", 1);
        worth("not 0 and 0", 0);
        worth("not 0 or 1", 1);
        worth("not (0 and 0)", 1);
        worth("1 or 1 and 0", 1);
        worth("(1 or 1) and 0", 0);
        worth("0 and 0 or 1", 1);
        worth("1 and not 0", 1);
        worth("1 or not 0 and not 1", 1);
        worth("(1<2)+(2<3)", 2);
        worth("1<(2<3)", 0);
        worth("3*(2+(1-(4/(2))))", 3);
        worth("1 and 2 < 3 and 4", 1);
    }

    private void limits() {
        worth("1000*1000*1000*1000*1000", 1000000000000000L);
        worth("1000*1000*1000*1000*1000+1", NO);
        worth("0-1000*1000*1000*1000*1000", -1000000000000000L);
        worth("0-1000*1000*1000*1000*1000-1", NO);
        worth("1000*1000*1000*1000*1000-1", 999999999999999L);
        worth("1000*1000*1000*1000*1000-1+1", 1000000000000000L);
        worth("0-1000*1000*1000*1000*1000+1-1", -1000000000000000L);
        worth("99999*99999*99999", 999970000299999L);
        worth("99999*99999*99999*2", NO);
        worth("(1000*1000*1000*1000*1000)*(1000*1000*1000*1000*1000)", NO);
        worth("(1000*1000*1000*1000*1000)*(0-1)", -1000000000000000L);
        worth("(1000*1000*1000*1000*1000)*0", 0);
        worth("0*(1000*1000*1000*1000*1000)", 0);
        worth("1 or 1000*1000*1000*1000*1000*2", NO);
        worth("1/0", NO);
        worth("0 and 1/0", NO);
        worth("1 or 1/0", NO);
        worth("not 1/0", NO);
        worth("1/0<2", NO);
        worth("1/0*0", NO);
    }

    private void value(String text, int layer, long due) {
        ShellHeap x = Desks.ofTwoBeds();
        checks.due("3: \"" + text + "\"", Texts.rules(x, "cause a:" + text + ";"), 1);
        checks.due("26: " + text + " of layer " + layer, x.cause(0, layer), due);
    }

    private void values() {
        value("size", 1, 50);
        value("size", 2, 50);
        value("size", 0, 60);
        value("age", 1, 8);
        value("growth", 1, 31);
        value("season", 1, 3);
        value("season", 0, 1);
        value("rank", 2, 1);
        value("rank", 0, 0);
        value("lost", 1, 50 * 1000 / 251);
        value("holds", 1, 3 * 7 + 100);
        value("number", 1, 200);
        value("food", 1, 400 * 999 + 100);
        value("days", 1, (400 * 999 + 100) / 20000);
    }

    private void daysOfTwentyThousand() {
        ShellHeap x = Desks.withLayers(2);
        x.kind(100, 1);
        Texts.rules(x, "cause a: days;");
        Texts.finds(x, "k0 s0: whole 200", 0);
        Texts.finds(x, "k0 s0: whole 199", 1);
        checks.due("26: 20000 are one day", x.cause(0, 0), 1);
        checks.due("26: 19900 are none", x.cause(0, 1), 0);
    }

    private void ahead() {
        value("then size", 1, 60);
        value("then age", 2, 10);
        value("then growth", 1, 30);
        value("then season", 1, 1);
        value("then rank", 2, 0);
        value("then lost", 1, 5 * 1000 / 27);
        value("then holds", 1, 15);
        value("then number", 1, 20);
        value("then food", 1, 40 * 999 + 200);
        value("then days", 1, (40 * 999 + 200) / 20000);
        value("size - then size", 1, -10);
        value("then size", 0, NO);
        value("1 or then size", 0, NO);
        ShellHeap x = Desks.withLayers(5);
        for (int i = 0; i < 5; i++) {
            x.measure(i, 10 + i, 1, 1);
        }
        Texts.rules(x, "cause a: then size;");
        x.note(0, 4, 3, 0);
        x.note(0, 4, 1, 0);
        checks.due("26: of several the least number", x.cause(0, 4), 11);
        x.note(0, 3, 0, 0);
        checks.due("26: the greatest rank", x.cause(0, 4), 13);
        x.note(0, 2, 0, 0);
        x.note(0, 4, 2, 0);
        checks.due("26: of the greatest rank the least number", x.cause(0, 4), 12);
    }

    private void noValues() {
        ShellHeap x = Desks.withLayers(2);
        x.note(0, 1, 0, 0);
        String[] none = {"size", "age", "growth", "holds", "number"};
        for (String name : none) {
            Texts.rules(x, "cause a:" + name + ";cause b:then " + name + ";");
            checks.due("26: no " + name, x.cause(0, 1), NO);
            checks.due("26: no then " + name, x.cause(1, 1), NO);
        }
        String[] zero = {"days", "season", "lost", "food"};
        for (String name : zero) {
            Texts.rules(x, "cause a:" + name + ";cause b:then " + name + ";");
            checks.due("26: 0 " + name, x.cause(0, 1), 0);
            checks.due("26: 0 then " + name, x.cause(1, 1), 0);
        }
        Texts.rules(x, "cause a:season;cause b:rank;cause c:then food;cause d:food;cause e:then rank;");
        x.readings(0, 0, 9, 9, 9, 9);
        x.readings(1, 0, 9, 0, 0, 0);
        int one = x.note(2, 0, 1, 0);
        checks.due("26: season by too many readings", x.cause(0, 1), NO);
        checks.due("26: rank in a ring", x.cause(1, 1), NO);
        checks.due("26: then in a ring", x.cause(2, 1), NO);
        checks.due("26: food in a ring", x.cause(3, 1), 0);
        x.strike(one);
        checks.due("26: rank", x.cause(1, 1), 1);
        checks.due("26: then rank", x.cause(4, 1), 0);
        x.note(3, 0, 5, 5);
        x.note(3, 1, 4, 4);
        checks.due("26: rank where no years hold", x.cause(1, 1), 1);
        checks.due("26: no such k", x.cause(5, 0), NO);
        checks.due("26: k below 0", x.cause(-1, 0), NO);
        checks.due("26: no such layer", x.cause(3, 2), NO);
        checks.due("26: layer below 0", x.cause(3, -1), NO);
        x.note(0, 0, 1, 0);
        checks.due("26: rank in a ring of two", x.cause(1, 0), NO);
        checks.due("26: then in a ring of two", x.cause(2, 0), NO);
    }

    private void why() {
        ShellHeap x = Desks.withLayers(1);
        checks.due("27: no rules", x.why(0), -1);
        Texts.rules(x, "cause a:0;cause b:1/0;cause c:0-5;");
        checks.due("27: one alone", x.why(0), 2);
        checks.due("27: no such layer", x.why(1), -1);
        checks.due("27: layer below 0", x.why(-1), -1);
        Texts.rules(x, "cause a:0;cause b:1;cause c:0-5;");
        checks.due("27: two hold", x.why(0), -1);
        Texts.rules(x, "cause a:1;cause b:1;cause c:1;");
        checks.due("27: three hold", x.why(0), -1);
        Texts.rules(x, "cause a:0;cause b:size;");
        checks.due("27: none holds", x.why(0), -1);
        x.measure(0, 3, 3, 3);
        checks.due("27: size holds now", x.why(0), 1);
    }
}
