import java.util.List;
import java.util.Random;

/** Texts of both languages by their grammars, and texts that are almost right. */
final class RandomTexts {
    private static final String SIGNS = "  \n:;,()<>=+-*/&Zk0s1\u00e9\u0000";
    private static final List<String> TOKENS = List.of("cause", "then", "not", "and", "or", "size", "food", "left",
            "gnawed", "k0", "s3", "s4", "k5", "7", "99999", "100000", "1000", "999", "(", ")", ";", ":", ",", "<", "<=", "<>",
            ">>", "=", "+", "abcdefgh", "abcdefghi", "then5", "left3");

    private final Random random;

    RandomTexts(Random random) {
        this.random = random;
    }

    private String blank() {
        int which = random.nextInt(8);
        return which == 0 ? "\n" : which < 4 ? " " : "";
    }

    private String oneOf(List<String> words) {
        return words.get(random.nextInt(words.size()));
    }

    private int number(int most) {
        int which = random.nextInt(12);
        return which == 0 ? most : which < 8 ? random.nextInt(10) : random.nextInt(most + 1);
    }

    /** Most often right as it is; else with one place spoilt. */
    String spoilt(String text) {
        if (random.nextInt(3) > 0 || text.isEmpty()) {
            return text;
        }
        int at = random.nextInt(text.length());
        switch (random.nextInt(5)) {
            case 0:
                return text.substring(0, at);
            case 1:
                return text.substring(0, at) + text.substring(at + 1);
            case 2:
                return text.substring(0, at) + SIGNS.charAt(random.nextInt(SIGNS.length())) + text.substring(at + 1);
            case 3:
                return text.substring(0, at) + SIGNS.charAt(random.nextInt(SIGNS.length())) + text.substring(at);
            default:
                return text.substring(0, at) + " " + oneOf(TOKENS) + " " + text.substring(at);
        }
    }

    String finds(int kinds) {
        StringBuilder text = new StringBuilder();
        int finds = 1 + random.nextInt(4);
        for (int i = 0; i < finds; i++) {
            text.append(i > 0 ? ";" : "").append(blank());
            int kind = random.nextInt(30) == 0 ? 6 : random.nextInt(Math.max(kinds, 1));
            int sieve = random.nextInt(30) == 0 ? 4 : random.nextInt(4);
            text.append('k').append(kind).append(blank()).append('s').append(sieve).append(blank()).append(':');
            List<String> parts = new java.util.ArrayList<>(PlainTexts.PARTS);
            java.util.Collections.shuffle(parts, random);
            int most = 1 + random.nextInt(4);
            for (int j = 0; j < most; j++) {
                String part = random.nextInt(60) == 0 ? parts.get(0) : parts.get(j);
                int much = random.nextInt(40) == 0 ? 1000 : number(999);
                text.append(j > 0 ? "," : "").append(blank()).append(part).append(' ').append(much).append(blank());
            }
        }
        return text.append(random.nextBoolean() ? ";" : "").append(blank()).toString();
    }

    String rules() {
        StringBuilder text = new StringBuilder();
        int causes = random.nextInt(40) == 0 ? 7 : random.nextInt(6);
        for (int i = 0; i < causes; i++) {
            String title = random.nextInt(40) == 0 ? "cold" : oneOf(List.of("a", "b", "sea", "wood", "x", "people")) + (char) ('a' + i);
            text.append(blank()).append("cause ").append(title).append(blank()).append(':');
            either(text, 4);
            text.append(';');
        }
        return text.append(blank()).toString();
    }

    /** Rules that are too much: long chains and deep brackets. */
    String longRules() {
        StringBuilder text = new StringBuilder("cause a:");
        int open = random.nextInt(11);
        text.append("(".repeat(open)).append("not ".repeat(random.nextInt(20))).append('1');
        int more = 20 + random.nextInt(40);
        for (int i = 0; i < more; i++) {
            text.append(oneOf(List.of("+", "-", "*", "and ", "or ", "/"))).append(oneOf(List.of("2", "rank ", "then rank ")));
        }
        return text.append(")".repeat(random.nextInt(20) == 0 ? 3 : open)).append(";cause b:1;").toString();
    }

    private void either(StringBuilder text, int depth) {
        int more = random.nextInt(5) == 0 ? 1 : 0;
        for (int i = 0; i <= more; i++) {
            text.append(i > 0 ? " or " : blank());
            both(text, depth);
        }
    }

    private void both(StringBuilder text, int depth) {
        int more = random.nextInt(5) == 0 ? 1 : 0;
        for (int i = 0; i <= more; i++) {
            text.append(i > 0 ? " and " : blank());
            text.append("not ".repeat(random.nextInt(6) == 0 ? 1 + random.nextInt(2) : 0));
            sum(text, depth);
            if (random.nextInt(3) == 0) {
                text.append(blank()).append(oneOf(List.of("<", "<=", "=", "<>", ">=", ">")));
                sum(text, depth);
            }
        }
    }

    private void sum(StringBuilder text, int depth) {
        int more = random.nextInt(3) == 0 ? 1 + random.nextInt(2) : 0;
        for (int i = 0; i <= more; i++) {
            text.append(i > 0 ? oneOf(List.of("+", "-")) : "").append(blank());
            product(text, depth);
        }
    }

    private void product(StringBuilder text, int depth) {
        int more = random.nextInt(3) == 0 ? 1 + random.nextInt(3) : 0;
        for (int i = 0; i <= more; i++) {
            text.append(i > 0 ? oneOf(List.of("*", "/", "*")) : "").append(blank());
            int which = random.nextInt(8);
            if (which == 0 && depth > 0) {
                text.append('(');
                either(text, depth - 1);
                text.append(')');
            } else if (which < 4) {
                text.append(number(99999));
            } else {
                text.append(which < 6 ? " then " : " ").append(oneOf(PlainTexts.NAMES)).append(' ');
            }
        }
    }
}
