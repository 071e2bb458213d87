import java.math.BigInteger;
import java.util.ArrayList;
import java.util.Collections;
import java.util.HashMap;
import java.util.List;
import java.util.Map;
import java.util.NoSuchElementException;
import java.util.OptionalLong;
import java.util.Set;
import java.util.TreeSet;

/** The document once more, as slowly and plainly as it is told, to be asked beside ShellHeap. */
final class PlainDesk {
    private record Note(int sort, int a, int b, int c, List<PlainTexts.Find> finds) {
    }

    private record Shell(int layer, int[] marks) {
    }

    private record Column(int x, int y, int[] cm) {
    }

    private record Kind(int meat, int valves, int[] kept) {
    }

    private static final BigInteger FAR = BigInteger.TEN.pow(15);

    private final StringBuilder tape = new StringBuilder();
    private final List<Note> notes = new ArrayList<>();
    private final List<Column> columns = new ArrayList<>();
    private final List<Kind> kinds = new ArrayList<>();
    private final List<Shell> shells = new ArrayList<>();
    private final int[][][] rows = new int[3][4][4];
    private final int[][][] told = new int[12][3][4];
    private PlainTexts.Read read = new PlainTexts.Read();
    private int layers = 0;
    private int w = 6;
    private int h = 6;
    private int fault = 0;
    private int place = -1;

    PlainDesk() {
        for (int[][] reader : rows) {
            for (int i = 0; i < 4; i++) {
                reader[i][i] = 16;
            }
        }
    }

    // ---- texts ----

    int feed(int... five) {
        if (tape.length() + 20 > 700) {
            return -1;
        }
        for (int number : five) {
            for (int i = 3; i >= 0; i--) {
                tape.append((char) (number >> 8 * i & 255));
            }
        }
        return tape.length();
    }

    private String takeText(int n) {
        String text = tape.substring(0, n);
        tape.setLength(0);
        fault = 0;
        place = -1;
        return text;
    }

    private int failed(PlainTexts.Fault of) {
        fault = of.sort;
        place = of.place;
        return -1;
    }

    int rules(int n) {
        if (n < 0 || n > tape.length()) {
            return -2;
        }
        try {
            read = PlainTexts.rules(takeText(n));
            return read.causes.size();
        } catch (PlainTexts.Fault of) {
            return failed(of);
        }
    }

    int finds(int n, int layer) {
        if (n < 0 || n > tape.length() || !isLayer(layer) || notes.size() == 80) {
            return -2;
        }
        try {
            notes.add(new Note(4, layer, 0, 0, PlainTexts.finds(takeText(n), kinds.size())));
            return notes.size() - 1;
        } catch (PlainTexts.Fault of) {
            return failed(of);
        }
    }

    int fault(int what) {
        return what == 0 ? fault : what == 1 ? place : -1;
    }

    // ---- the book ----

    private boolean isLayer(int layer) {
        return layer >= 0 && layer < layers;
    }

    int layer() {
        return layers == 12 ? -1 : layers++;
    }

    private int write(Note note) {
        if (notes.size() == 80) {
            return -1;
        }
        notes.add(note);
        return notes.size() - 1;
    }

    int note(int sort, int a, int b, int c) {
        boolean pair = sort >= 0 && sort <= 2 && isLayer(a) && isLayer(b) && a != b;
        boolean date = sort == 3 && isLayer(a) && 0 <= b && b <= c && c <= 9999;
        return pair || date ? write(new Note(sort, a, b, c, List.of())) : -1;
    }

    int strike(int note) {
        return note >= 0 && note < notes.size() ? write(new Note(5, note, 0, 0, List.of())) : -1;
    }

    private boolean isStruck(int n, int note) {
        for (int i = note + 1; i < n; i++) {
            if (notes.get(i).sort() == 5 && notes.get(i).a() == note && !isStruck(n, i)) {
                return true;
            }
        }
        return false;
    }

    private List<Note> counting(int n) {
        List<Note> counting = new ArrayList<>();
        for (int i = 0; i < n; i++) {
            if (!isStruck(n, i)) {
                counting.add(notes.get(i));
            }
        }
        return counting;
    }

    private final class Look {
        final List<Note> counting;
        final List<Set<Integer>> beds = new ArrayList<>();
        private final Map<Integer, Integer> ranks = new HashMap<>();
        final boolean ring;

        Look(int n) {
            counting = counting(n);
            for (int layer = 0; layer < layers; layer++) {
                Set<Integer> bed = new TreeSet<>(Set.of(layer));
                boolean grows = true;
                while (grows) {
                    grows = false;
                    for (Note note : counting) {
                        if (note.sort() == 2 && (bed.contains(note.a()) || bed.contains(note.b()))) {
                            grows |= bed.add(note.a()) | bed.add(note.b());
                        }
                    }
                }
                beds.add(bed);
            }
            boolean found = false;
            for (int layer = 0; layer < layers; layer++) {
                found |= laterThan(layer).contains(number(layer));
            }
            ring = found;
        }

        int number(int layer) {
            return Collections.min(beds.get(layer));
        }

        /** The numbers of the BEDS that the BED of a LAYER is LATER than. */
        Set<Integer> laterThan(int layer) {
            Set<Integer> found = new TreeSet<>();
            List<Integer> toAsk = new ArrayList<>(List.of(number(layer)));
            for (int i = 0; i < toAsk.size(); i++) {
                for (Note note : counting) {
                    if (note.sort() <= 1 && number(note.a()) == toAsk.get(i) && found.add(number(note.b()))) {
                        toAsk.add(number(note.b()));
                    }
                }
            }
            return found;
        }

        int rank(int layer) {
            Integer kept = ranks.get(layer);
            if (kept != null) {
                return kept;
            }
            int rank = 0;
            for (int other : laterThan(layer)) {
                rank = Math.max(rank, 1 + rank(other));
            }
            ranks.put(layer, rank);
            return rank;
        }

        /** Least (0) or greatest (1) YEARS, by leading each bound along until nothing changes. */
        int[] years(int which) {
            int[] years = new int[layers];
            for (int i = 0; i < layers; i++) {
                years[i] = which == 0 ? 0 : 9999;
            }
            for (int round = 0; round < 30; round++) {
                for (Note note : counting) {
                    if (note.sort() == 3) {
                        bind(years, which, note.a(), which == 0 ? note.b() : note.c());
                    } else if (note.sort() == 2) {
                        bind(years, which, note.a(), years[note.b()]);
                        bind(years, which, note.b(), years[note.a()]);
                    } else if (note.sort() <= 1) {
                        bind(years, which, which == 0 ? note.a() : note.b(), years[which == 0 ? note.b() : note.a()]);
                    }
                }
            }
            return years;
        }

        private void bind(int[] years, int which, int layer, int year) {
            years[layer] = which == 0 ? Math.max(years[layer], year) : Math.min(years[layer], year);
        }

        int quarrel() {
            if (ring) {
                return 1;
            }
            int[] least = years(0);
            int[] greatest = years(1);
            for (int i = 0; i < layers; i++) {
                if (least[i] > greatest[i]) {
                    return 2;
                }
            }
            return 0;
        }
    }

    private Look now() {
        return new Look(notes.size());
    }

    private boolean isN(int n) {
        return n >= 0 && n <= notes.size();
    }

    int bed(int n, int layer, int what) {
        if (!isN(n) || !isLayer(layer) || what < 0 || what > 4) {
            return -2;
        }
        Look look = new Look(n);
        if (what == 0) {
            return look.number(layer);
        }
        if (what == 1) {
            return look.beds.get(layer).size();
        }
        if (what == 2) {
            return look.ring ? -1 : look.rank(layer);
        }
        return look.quarrel() != 0 ? -1 : look.years(what - 3)[layer];
    }

    int order(int n, int a, int b) {
        if (!isN(n) || !isLayer(a) || !isLayer(b)) {
            return -1;
        }
        Look look = new Look(n);
        boolean first = look.laterThan(a).contains(look.number(b));
        boolean second = look.laterThan(b).contains(look.number(a));
        return first && second ? 3 : first ? 1 : second ? 2 : 0;
    }

    int quarrel(int n) {
        return isN(n) ? new Look(n).quarrel() : -1;
    }

    // ---- the heap ----

    boolean heap(int width, int height) {
        if (width < 2 || width > 12 || height < 2 || height > 12) {
            return false;
        }
        w = width;
        h = height;
        columns.clear();
        return true;
    }

    int column(int x, int y) {
        boolean there = columns.stream().anyMatch(c -> c.x() == x && c.y() == y);
        if (x < 0 || x >= w || y < 0 || y >= h || there || columns.size() == 10) {
            return -1;
        }
        columns.add(new Column(x, y, new int[12]));
        return columns.size() - 1;
    }

    boolean thick(int column, int layer, int cm) {
        if (column < 0 || column >= columns.size() || !isLayer(layer) || cm < 0 || cm > 500) {
            return false;
        }
        columns.get(column).cm()[layer] = cm;
        return true;
    }

    private int holdsBy(List<Column> some, Set<Integer> bed) {
        int sum = 0;
        for (int x = 0; x < w; x++) {
            for (int y = 0; y < h; y++) {
                Column nearest = null;
                int near = Integer.MAX_VALUE;
                for (Column c : some) {
                    int far = (c.x() - x) * (c.x() - x) + (c.y() - y) * (c.y() - y);
                    if (far < near) {
                        near = far;
                        nearest = c;
                    }
                }
                for (int layer : bed) {
                    sum += nearest.cm()[layer];
                }
            }
        }
        return sum;
    }

    int holds(int layer, int what) {
        if (!isLayer(layer) || what < 0 || what > 2 || columns.isEmpty()) {
            return -1;
        }
        Set<Integer> bed = now().beds.get(layer);
        if (what == 0 || columns.size() == 1) {
            return holdsBy(columns, bed);
        }
        List<Integer> left = new ArrayList<>();
        for (int out = 0; out < columns.size(); out++) {
            List<Column> others = new ArrayList<>(columns);
            others.remove(out);
            left.add(holdsBy(others, bed));
        }
        return what == 1 ? Collections.min(left) : Collections.max(left);
    }

    // ---- shells eaten ----

    int kind(int meat, int valves) {
        if (meat < 0 || meat > 999 || valves < 1 || valves > 2 || kinds.size() == 6) {
            return -1;
        }
        kinds.add(new Kind(meat, valves, new int[] {16, 16, 16, 16}));
        return kinds.size() - 1;
    }

    boolean kept(int kind, int sieve, int of16) {
        if (kind < 0 || kind >= kinds.size() || sieve < 0 || sieve > 3 || of16 < 1 || of16 > 16) {
            return false;
        }
        kinds.get(kind).kept()[sieve] = of16;
        return true;
    }

    /** The SUM of a PART; a number below 0 stands for all KINDS, SIEVES or PARTS. */
    private long sum(Look look, int layer, int kind, int sieve, int part) {
        long sum = 0;
        for (Note note : look.counting) {
            if (note.sort() == 4 && look.beds.get(layer).contains(note.a())) {
                for (PlainTexts.Find find : note.finds()) {
                    boolean meant = (kind < 0 || find.kind() == kind) && (sieve < 0 || find.sieve() == sieve)
                            && (part < 0 || find.part() == part);
                    sum += meant ? find.number() : 0;
                }
            }
        }
        return sum;
    }

    private long hinges(Look look, int layer, int kind, int sieve) {
        long left = sum(look, layer, kind, sieve, 0);
        long right = sum(look, layer, kind, sieve, 1);
        long whole = sum(look, layer, kind, sieve, 2);
        return kinds.get(kind).valves() == 1 ? left + right + whole : whole + (left > right ? left : right);
    }

    private long number(Look look, int layer, int kind) {
        long number = 0;
        for (int sieve = 0; sieve < 4; sieve++) {
            number += hinges(look, layer, kind, sieve);
        }
        return number;
    }

    /** Adds fractions as they are, by the product of all that is kept. */
    private long righted(Look look, int layer, int kind) {
        BigInteger over = BigInteger.ZERO;
        BigInteger under = BigInteger.ONE;
        for (int sieve = 0; sieve < 4; sieve++) {
            BigInteger kept = BigInteger.valueOf(kinds.get(kind).kept()[sieve]);
            BigInteger more = BigInteger.valueOf(hinges(look, layer, kind, sieve) * 16);
            over = over.multiply(kept).add(more.multiply(under));
            under = under.multiply(kept);
        }
        return over.divide(under).longValueExact();
    }

    private long food(Look look, int layer) {
        long food = 0;
        for (int kind = 0; kind < kinds.size(); kind++) {
            food += righted(look, layer, kind) * kinds.get(kind).meat();
        }
        return food;
    }

    private long lost(Look look, int layer) {
        long all = sum(look, layer, -1, -1, -1);
        return all == 0 ? 0 : sum(look, layer, -1, -1, 5) * 1000 / all;
    }

    long eaten(int layer, int kind, int what) {
        if (!isLayer(layer) || what < 0 || what > 3 || what < 2 && (kind < 0 || kind >= kinds.size())) {
            return -1;
        }
        Look look = now();
        return switch (what) {
            case 0 -> number(look, layer, kind);
            case 1 -> righted(look, layer, kind);
            case 2 -> food(look, layer);
            default -> lost(look, layer);
        };
    }

    long days(int layer, int aDay, int of100) {
        if (!isLayer(layer) || aDay < 1 || aDay > 99999 || of100 < 1 || of100 > 100) {
            return -1;
        }
        return food(now(), layer) * 100 / aDay / of100;
    }

    // ---- seasons ----

    private static boolean within(int most, int... numbers) {
        for (int number : numbers) {
            if (number < 0 || number > most) {
                return false;
            }
        }
        return true;
    }

    boolean reads(int reader, int season, int a, int b, int c, int d) {
        if (!within(2, reader) || !within(3, season) || !within(16, a, b, c, d) || a + b + c + d != 16) {
            return false;
        }
        rows[reader][season] = new int[] {a, b, c, d};
        return true;
    }

    private int[] toldOf(Set<Integer> bed, int reader) {
        int[] sum = new int[4];
        for (int layer : bed) {
            for (int j = 0; j < 4; j++) {
                sum[j] += told[layer][reader][j];
            }
        }
        return sum;
    }

    private static int all(int[] four) {
        return four[0] + four[1] + four[2] + four[3];
    }

    int readings(int layer, int reader, int a, int b, int c, int d) {
        if (!isLayer(layer) || !within(2, reader) || !within(9, a, b, c, d) || a + b + c + d == 0) {
            return -1;
        }
        int then = all(toldOf(now().beds.get(layer), reader)) + a + b + c + d;
        if (then > 40) {
            return -1;
        }
        int[] more = {a, b, c, d};
        for (int j = 0; j < 4; j++) {
            told[layer][reader][j] += more[j];
        }
        return then;
    }

    /** t of each SEASON and MISS, by trying every t there is; null with too many READINGS. */
    private int[] putRight(Set<Integer> bed, int reader) {
        int[] by = toldOf(bed, reader);
        int n = all(by);
        if (n > 40) {
            return null;
        }
        int[] best = null;
        for (int p = 0; p <= n; p++) {
            for (int q = 0; q <= n - p; q++) {
                for (int r = 0; r <= n - p - q; r++) {
                    int[] t = {p, q, r, n - p - q - r, 0};
                    for (int j = 0; j < 4; j++) {
                        int gap = 16 * by[j];
                        for (int i = 0; i < 4; i++) {
                            gap -= t[i] * rows[reader][i][j];
                        }
                        t[4] += gap * gap;
                    }
                    if (best == null || t[4] < best[4]) {
                        best = t;
                    }
                }
            }
        }
        return best;
    }

    int season(int layer, int reader, int what) {
        if (!isLayer(layer) || !within(2, reader) || !within(5, what)) {
            return -1;
        }
        Set<Integer> bed = now().beds.get(layer);
        if (what == 5) {
            return all(toldOf(bed, reader));
        }
        int[] right = putRight(bed, reader);
        return right == null ? -1 : right[what];
    }

    int stay(int layer) {
        return isLayer(layer) ? stayOf(now().beds.get(layer)) : -1;
    }

    private int stayOf(Set<Integer> bed) {
        int bits = 0;
        for (int reader = 0; reader < 3; reader++) {
            int[] right = putRight(bed, reader);
            if (right == null) {
                return -1;
            }
            for (int i = 0; i < 4; i++) {
                bits |= right[i] > 0 ? 1 << i : 0;
            }
        }
        return bits;
    }

    // ---- sizes ----

    int measure(int layer, int size, int rings, int width) {
        if (!isLayer(layer) || !within(99, size, width) || !within(30, rings) || shells.size() == 200) {
            return -1;
        }
        shells.add(new Shell(layer, new int[] {size, rings, width}));
        return shells.size();
    }

    private List<Integer> marks(Set<Integer> bed, int what) {
        List<Integer> marks = new ArrayList<>();
        for (Shell shell : shells) {
            if (bed.contains(shell.layer())) {
                marks.add(shell.marks()[what]);
            }
        }
        Collections.sort(marks);
        return marks;
    }

    private int middleOf(Set<Integer> bed, int what) {
        List<Integer> marks = marks(bed, what);
        return marks.isEmpty() ? -1 : marks.get((marks.size() - 1) / 2);
    }

    int middle(int layer, int what) {
        if (!isLayer(layer) || !within(3, what)) {
            return -2;
        }
        Set<Integer> bed = now().beds.get(layer);
        return what == 3 ? marks(bed, 0).size() : middleOf(bed, what);
    }

    // ---- causes ----

    private OptionalLong some(long value) {
        return value == -1 ? OptionalLong.empty() : OptionalLong.of(value);
    }

    private OptionalLong value(Look look, int layer, String name) {
        Set<Integer> bed = look.beds.get(layer);
        switch (name) {
            case "size":
                return some(middleOf(bed, 0));
            case "age":
                return some(middleOf(bed, 1));
            case "growth":
                return some(middleOf(bed, 2));
            case "season":
                int stay = stayOf(bed);
                return stay == -1 ? OptionalLong.empty() : OptionalLong.of(Integer.bitCount(stay));
            case "rank":
                return look.ring ? OptionalLong.empty() : OptionalLong.of(look.rank(layer));
            case "lost":
                return OptionalLong.of(lost(look, layer));
            case "holds":
                return columns.isEmpty() ? OptionalLong.empty() : OptionalLong.of(holdsBy(columns, bed));
            case "number":
                return kinds.isEmpty() ? OptionalLong.empty() : OptionalLong.of(number(look, layer, 0));
            case "food":
                return OptionalLong.of(food(look, layer));
            default:
                return OptionalLong.of(food(look, layer) * 100 / (20000L * 100));
        }
    }

    private int ahead(Look look, int layer) {
        int found = -1;
        for (int other : look.ring ? Set.<Integer>of() : look.laterThan(layer)) {
            if (found < 0 || look.rank(other) > look.rank(found)) {
                found = other;
            }
        }
        return found;
    }

    private OptionalLong worth(Look look, int layer, PlainTexts.Node node) {
        if (node.join().equals("#")) {
            return OptionalLong.of(node.number());
        }
        if (node.below().isEmpty()) {
            int of = node.ahead() ? ahead(look, layer) : layer;
            return of < 0 ? OptionalLong.empty() : value(look, of, node.join());
        }
        OptionalLong left = worth(look, layer, node.below().get(0));
        if (node.join().equals("not")) {
            return left.isEmpty() ? left : OptionalLong.of(left.getAsLong() == 0 ? 1 : 0);
        }
        OptionalLong right = worth(look, layer, node.below().get(1));
        if (left.isEmpty() || right.isEmpty()) {
            return OptionalLong.empty();
        }
        return joined(node.join(), BigInteger.valueOf(left.getAsLong()), BigInteger.valueOf(right.getAsLong()));
    }

    private static OptionalLong joined(String join, BigInteger a, BigInteger b) {
        int c = a.compareTo(b);
        boolean yes;
        switch (join) {
            case "+":
                return near(a.add(b));
            case "-":
                return near(a.subtract(b));
            case "*":
                return near(a.multiply(b));
            case "/":
                return b.signum() == 0 ? OptionalLong.empty() : near(a.divide(b));
            case "and":
                yes = a.signum() != 0 && b.signum() != 0;
                break;
            case "or":
                yes = a.signum() != 0 || b.signum() != 0;
                break;
            case "<":
                yes = c < 0;
                break;
            case "<=":
                yes = c <= 0;
                break;
            case "=":
                yes = c == 0;
                break;
            case "<>":
                yes = c != 0;
                break;
            case ">=":
                yes = c >= 0;
                break;
            default:
                yes = c > 0;
                break;
        }
        return OptionalLong.of(yes ? 1 : 0);
    }

    private static OptionalLong near(BigInteger value) {
        return value.abs().compareTo(FAR) > 0 ? OptionalLong.empty() : OptionalLong.of(value.longValueExact());
    }

    long cause(int k, int layer) {
        if (k < 0 || k >= read.causes.size() || !isLayer(layer)) {
            return Long.MIN_VALUE;
        }
        return worth(now(), layer, read.causes.get(k)).orElse(Long.MIN_VALUE);
    }

    int why(int layer) {
        List<Integer> held = new ArrayList<>();
        for (int k = 0; k < read.causes.size(); k++) {
            long worth = cause(k, layer);
            if (worth != 0 && worth != Long.MIN_VALUE) {
                held.add(k);
            }
        }
        return held.size() == 1 ? held.get(0) : -1;
    }

    int count(int what) {
        switch (what) {
            case 0:
                Look look = now();
                Set<Integer> beds = new TreeSet<>();
                for (int i = 0; i < layers; i++) {
                    beds.add(look.number(i));
                }
                return beds.size();
            case 1:
                return layers;
            case 2:
                return notes.size();
            case 3:
                return columns.size();
            case 4:
                return kinds.size();
            case 5:
                return shells.size();
            case 6:
                return read.causes.size();
            case 7:
                return read.knots;
            default:
                throw new NoSuchElementException();
        }
    }

    int layersSoFar() {
        return layers;
    }

    int notesSoFar() {
        return notes.size();
    }

    int kindsSoFar() {
        return kinds.size();
    }

    int columnsSoFar() {
        return columns.size();
    }
}
