import java.util.ArrayList;
import java.util.HashSet;
import java.util.List;
import java.util.Set;

/** The two languages of the document, read by their grammar's own lines: a second opinion beside ShellHeap's readers. */
final class PlainTexts {
    /** A FAULT and its place. */
    static final class Fault extends Exception {
        private static final long serialVersionUID = 1L;
        final int sort;
        final int place;

        Fault(int sort, int place) {
            this.sort = sort;
            this.place = place;
        }
    }

    record Token(String text, int place) {
        boolean is(String other) {
            return text.equals(other);
        }
    }

    record Find(int kind, int sieve, int part, int number) {
    }

    /** A node of an E: a number, a name (with then ahead or not), or a join of other nodes. */
    record Node(String join, long number, boolean ahead, List<Node> below) {
    }

    static final List<String> PARTS = List.of("left", "right", "whole", "broken", "burnt", "gnawed");
    static final List<String> NAMES =
            List.of("size", "age", "growth", "days", "season", "rank", "lost", "holds", "number", "food");
    private static final List<String> WORDS = List.of("cause", "then", "not", "and", "or");
    private static final List<String> COMPARISONS = List.of("<", "<=", "=", "<>", ">=", ">");

    private final List<Token> tokens = new ArrayList<>();
    private int next = 0;
    int knots = 0;

    private PlainTexts(String text, String wordPattern) {
        java.util.regex.Matcher all = java.util.regex.Pattern
                .compile("[\\n ]+|(" + wordPattern + "|[0-9]+|[<>][=>]|[\\x00-\\xff])").matcher(text);
        while (all.find()) {
            if (all.group(1) != null) {
                tokens.add(new Token(all.group(1), all.start(1)));
            }
        }
        tokens.add(new Token("", text.length()));
    }

    private Token peek() {
        return tokens.get(next);
    }

    private Token take() {
        return tokens.get(next++);
    }

    private Token takeOnly(String what) throws Fault {
        if (!peek().is(what)) {
            throw new Fault(1, peek().place());
        }
        return take();
    }

    private static boolean above(String digits, long most) {
        return new java.math.BigInteger(digits).compareTo(java.math.BigInteger.valueOf(most)) > 0;
    }

    // ---- FINDS ----

    static List<Find> finds(String text, int kinds) throws Fault {
        PlainTexts reader = new PlainTexts(text, "[a-z]+[0-9]*");
        List<Find> found = new ArrayList<>();
        do {
            reader.find(kinds, found);
            if (reader.peek().is("")) {
                return found;
            }
            reader.takeOnly(";");
        } while (!reader.peek().is(""));
        return found;
    }

    private int numbered(String letter, int most) throws Fault {
        if (!peek().text().matches(letter + "[0-9]+")) {
            throw new Fault(1, peek().place());
        }
        String digits = peek().text().substring(1);
        if (above(digits, most)) {
            throw new Fault(2, peek().place());
        }
        take();
        return Integer.parseInt(digits);
    }

    private void find(int kinds, List<Find> found) throws Fault {
        int kind = numbered("k", kinds - 1);
        int sieve = numbered("s", 3);
        takeOnly(":");
        Set<Integer> told = new HashSet<>();
        do {
            if (!told.isEmpty()) {
                take();
            }
            int part = PARTS.indexOf(peek().text());
            if (part < 0) {
                throw new Fault(1, peek().place());
            }
            if (!told.add(part)) {
                throw new Fault(3, peek().place());
            }
            take();
            found.add(new Find(kind, sieve, part, (int) number(999)));
        } while (peek().is(","));
    }

    private long number(long most) throws Fault {
        if (!peek().text().matches("[0-9]+")) {
            throw new Fault(1, peek().place());
        }
        if (above(peek().text(), most)) {
            throw new Fault(2, peek().place());
        }
        return Long.parseLong(take().text());
    }

    // ---- RULES ----

    static final class Read {
        final List<Node> causes = new ArrayList<>();
        int knots;
    }

    static Read rules(String text) throws Fault {
        PlainTexts reader = new PlainTexts(text, "[a-z]+");
        Read read = new Read();
        Set<String> titles = new HashSet<>();
        while (!reader.peek().is("")) {
            Token cause = reader.takeOnly("cause");
            if (read.causes.size() == 6) {
                throw new Fault(2, cause.place());
            }
            Token title = reader.peek();
            boolean reserved = NAMES.contains(title.text()) || WORDS.contains(title.text());
            if (!title.text().matches("[a-z]{1,8}") || reserved) {
                throw new Fault(1, title.place());
            }
            if (!titles.add(title.text())) {
                throw new Fault(3, title.place());
            }
            reader.take();
            reader.takeOnly(":");
            read.causes.add(reader.either(0));
            reader.takeOnly(";");
        }
        read.knots = reader.knots;
        return read;
    }

    private void tie(Token token) throws Fault {
        if (knots == 96) {
            throw new Fault(2, token.place());
        }
        knots++;
    }

    private Node either(int open) throws Fault {
        Node node = both(open);
        while (peek().is("or")) {
            tie(peek());
            take();
            node = new Node("or", 0, false, List.of(node, both(open)));
        }
        return node;
    }

    private Node both(int open) throws Fault {
        Node node = maybeNot(open);
        while (peek().is("and")) {
            tie(peek());
            take();
            node = new Node("and", 0, false, List.of(node, maybeNot(open)));
        }
        return node;
    }

    private Node maybeNot(int open) throws Fault {
        if (!peek().is("not")) {
            return compared(open);
        }
        tie(peek());
        take();
        return new Node("not", 0, false, List.of(maybeNot(open)));
    }

    private Node compared(int open) throws Fault {
        Node node = sum(open);
        if (!COMPARISONS.contains(peek().text())) {
            return node;
        }
        tie(peek());
        String sign = take().text();
        return new Node(sign, 0, false, List.of(node, sum(open)));
    }

    private Node sum(int open) throws Fault {
        Node node = product(open);
        while (peek().is("+") || peek().is("-")) {
            tie(peek());
            String sign = take().text();
            node = new Node(sign, 0, false, List.of(node, product(open)));
        }
        return node;
    }

    private Node product(int open) throws Fault {
        Node node = part(open);
        while (peek().is("*") || peek().is("/")) {
            tie(peek());
            String sign = take().text();
            node = new Node(sign, 0, false, List.of(node, part(open)));
        }
        return node;
    }

    private Node part(int open) throws Fault {
        if (peek().is("(")) {
            if (open == 8) {
                throw new Fault(2, peek().place());
            }
            take();
            Node node = either(open + 1);
            takeOnly(")");
            return node;
        }
        if (peek().text().matches("[0-9]+")) {
            tie(peek());
            return new Node("#", number(99999), false, List.of());
        }
        boolean ahead = peek().is("then");
        if (ahead) {
            tie(peek());
            take();
        }
        if (!NAMES.contains(peek().text())) {
            throw new Fault(1, peek().place());
        }
        tie(peek());
        return new Node(take().text(), 0, ahead, List.of());
    }
}
