import java.lang.reflect.InvocationTargetException;
import java.lang.reflect.Method;
import java.util.ArrayList;
import java.util.Arrays;
import java.util.List;
import java.util.NoSuchElementException;

/**
 * Every call with numbers at, right below and right above each limit that the document names, two of them at a time, on
 * an empty desk, a small one and a full one: it answers as the plain desk does, and never throws but where it must.
 */
final class ArgumentsTest {
    private static final int MIN = Integer.MIN_VALUE;
    private static final int MAX = Integer.MAX_VALUE;
    private static final int[] LIMITS = {MIN, MIN + 1, -2, -1, 0, 1, 2, 3, 4, 5, 6, 7, 8, 9, 10, 11, 12, 13, 15, 16, 17, 18, 30,
        31, 40, 41, 79, 80, 81, 99, 100, 101, 200, 499, 500, 501, 699, 700, 701, 998, 999, 1000, 9998, 9999, 10000, 99999, 100000,
        1 << 16, 1 << 30, MAX - 1, MAX};
    private static final int CALLS = 512;
    private static final long THROWN = Long.MIN_VALUE + 7;

    /** A call that both desks know by its name, with arguments that are right on a desk of two layers. */
    private record Call(String name, int... arguments) {
    }

    private static final List<Call> ALL = List.of(new Call("rules", 0), new Call("finds", 0, 0), new Call("fault", 0),
            new Call("note", 0, 1, 0, 5), new Call("note", 3, 1, 5, 6), new Call("strike", 0), new Call("bed", 0, 0, 2),
            new Call("order", 0, 1, 0), new Call("quarrel", 0), new Call("heap", 6, 6), new Call("column", 1, 1),
            new Call("thick", 0, 1, 9), new Call("holds", 0, 1), new Call("kind", 9, 2), new Call("kept", 0, 1, 8),
            new Call("eaten", 1, 0, 1), new Call("days", 1, 2, 3), new Call("reads", 1, 2, 4, 4, 4, 4), new Call("readings", 1, 2, 0, 1, 0, 1),
            new Call("season", 1, 2, 0), new Call("stay", 1), new Call("measure", 1, 20, 5, 10), new Call("middle", 1, 0),
            new Call("cause", 0, 1), new Call("why", 1), new Call("count", 0));

    private final Checks checks = new Checks();
    private final List<Call> life;
    private ShellHeap desk;
    private PlainDesk plain;
    private int calls = CALLS;

    private ArgumentsTest(List<Call> life) {
        this.life = life;
    }

    public static void main(String[] args) throws Exception {
        for (List<Call> life : List.of(List.<Call>of(), small(), full())) {
            ArgumentsTest test = new ArgumentsTest(life);
            for (Call call : ALL) {
                test.pairs(call);
            }
            test.checks.end();
        }
    }

    private static void layers(List<Call> life, int many) {
        for (int i = 0; i < many; i++) {
            life.add(new Call("layer"));
        }
    }

    private static void feed(List<Call> life, String text) {
        for (int from = 0; from < text.length(); from += 20) {
            life.add(new Call("feed", Texts.feedOf(text, from)));
        }
    }

    private static List<Call> small() {
        List<Call> life = new ArrayList<>();
        layers(life, 2);
        life.addAll(List.of(new Call("note", 0, 1, 0, 0), new Call("note", 3, 0, 100, 200), new Call("column", 2, 3),
                new Call("thick", 0, 1, 7), new Call("kind", 12, 2), new Call("kept", 0, 1, 3), new Call("measure", 1, 9, 8, 7),
                new Call("measure", 0, 6, 5, 4), new Call("readings", 1, 2, 1, 2, 3, 4), new Call("reads", 2, 2, 4, 4, 4, 4)));
        feed(life, "k0s1:left 4,gnawed 2");
        life.add(new Call("finds", 20, 1));
        feed(life, "cause a:size-then size;cause b:then food+rank;cause c:holds;");
        life.add(new Call("rules", 60));
        return life;
    }

    /** Twelve layers, eighty notes, ten columns and six kinds; the tape is full, too. */
    private static List<Call> full() {
        List<Call> life = new ArrayList<>();
        layers(life, 12);
        life.add(new Call("heap", 12, 12));
        for (int i = 0; i < 10; i++) {
            life.add(new Call("column", i, 11 - i));
            life.add(new Call("thick", i, 11 - i, 500 - i));
        }
        for (int i = 0; i < 6; i++) {
            life.add(new Call("kind", 999 - i, 1 + i % 2));
            life.add(new Call("kept", i, i % 4, 16 - 3 * i));
        }
        feed(life, "k5s1:left 999,gnawed 999;k0s3:whole 999;");
        life.add(new Call("finds", 40, 11));
        for (int i = 0; i < 78; i++) {
            life.add(i % 7 == 6 ? new Call("strike", i) : new Call("note", i % 5 == 4 ? 3 : i % 2, 11 - i % 3, i % 9, 9000 + i));
        }
        life.add(new Call("note", 2, 11, 10, 0));
        life.add(new Call("readings", 11, 2, 9, 9, 9, 9));
        life.add(new Call("readings", 10, 2, 0, 0, 2, 2));
        feed(life, "cause a:rank;cause b:1;cause c:season;cause d:then rank;cause e:food;cause f:1/0;");
        life.add(new Call("rules", 81));
        feed(life, " ".repeat(700));
        return life;
    }

    private void renew() throws Exception {
        desk = new ShellHeap();
        plain = new PlainDesk();
        calls = 0;
        for (Call call : life) {
            ask(call);
        }
    }

    private void pairs(Call call) throws Exception {
        int many = call.arguments().length;
        calls = CALLS;
        for (int i = 0; i < many; i++) {
            for (int j = Math.min(i + 1, many - 1); j < many; j++) {
                for (int first : LIMITS) {
                    for (int second : LIMITS) {
                        int[] arguments = call.arguments().clone();
                        arguments[j] = second;
                        arguments[i] = first;
                        if (calls >= CALLS) {
                            renew();
                        }
                        ask(new Call(call.name(), arguments));
                    }
                }
            }
        }
    }

    private void ask(Call call) throws Exception {
        calls++;
        long due = call.name().equals("feed") ? plain.feed(call.arguments()) : answer(plain, call);
        checks.due(call.name() + Arrays.toString(call.arguments()) + " on a desk of " + life.size() + " calls", answer(desk, call), due);
        if (checks.wrongSoFar() > 20) {
            checks.end();
        }
    }

    private static long answer(Object of, Call call) throws Exception {
        Object[] arguments = new Object[call.arguments().length];
        Class<?>[] types = new Class<?>[arguments.length];
        for (int i = 0; i < arguments.length; i++) {
            arguments[i] = call.arguments()[i];
            types[i] = int.class;
        }
        Method method = of.getClass().getDeclaredMethod(call.name(), types);
        try {
            Object answer = method.invoke(of, arguments);
            return answer instanceof Boolean ? (Boolean) answer ? 1 : 0 : ((Number) answer).longValue();
        } catch (InvocationTargetException thrown) {
            if (thrown.getCause() instanceof NoSuchElementException && call.name().equals("count")) {
                return THROWN;
            }
            throw thrown;
        }
    }
}
