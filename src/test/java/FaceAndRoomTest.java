import com.sun.management.ThreadMXBean;
import java.lang.management.ManagementFactory;
import java.lang.reflect.Constructor;
import java.lang.reflect.Field;
import java.lang.reflect.Method;
import java.lang.reflect.Modifier;
import java.util.Arrays;
import java.util.Set;
import java.util.TreeSet;

/** The face is the document's and no wider, and calls make no objects: what a run keeps, its constructor has made. */
final class FaceAndRoomTest {
    private static final Set<String> FACE = new TreeSet<>(Arrays.asList(
            "int feed(int, int, int, int, int)", "int rules(int)", "int finds(int, int)", "int fault(int)", "int layer()",
            "int note(int, int, int, int)", "int strike(int)", "int bed(int, int, int)", "int order(int, int, int)",
            "int quarrel(int)", "boolean heap(int, int)", "int column(int, int)", "boolean thick(int, int, int)",
            "int holds(int, int)", "int kind(int, int)", "boolean kept(int, int, int)", "long eaten(int, int, int)",
            "long days(int, int, int)", "boolean reads(int, int, int, int, int, int)",
            "int readings(int, int, int, int, int, int)", "int season(int, int, int)", "int stay(int)",
            "int measure(int, int, int, int)", "int middle(int, int)", "long cause(int, int)", "int why(int)",
            "int count(int)"));

    private final Checks checks = new Checks();

    public static void main(String[] args) {
        FaceAndRoomTest test = new FaceAndRoomTest();
        test.face();
        test.room();
        test.checks.end();
    }

    private static String told(Method method) {
        StringBuilder text = new StringBuilder(method.getReturnType().getName() + " " + method.getName() + "(");
        for (Class<?> type : method.getParameterTypes()) {
            text.append(text.charAt(text.length() - 1) == '(' ? "" : ", ").append(type.getName());
        }
        return text.append(")").toString();
    }

    private void face() {
        Set<String> found = new TreeSet<>();
        for (Method method : ShellHeap.class.getDeclaredMethods()) {
            if (!Modifier.isPrivate(method.getModifiers())) {
                found.add(told(method));
            }
        }
        checks.due("the methods that are not private: " + found, found.equals(FACE), true);
        for (Field field : ShellHeap.class.getDeclaredFields()) {
            checks.due("what can be seen of " + field.getName(), Modifier.isPrivate(field.getModifiers()),
                    !field.getName().equals("NONE"));
        }
        for (Class<?> inside : ShellHeap.class.getDeclaredClasses()) {
            int is = inside.getModifiers();
            checks.due(inside + " is static", Modifier.isStatic(is), true);
            checks.due(inside + " is not public", Modifier.isPublic(is) || Modifier.isProtected(is), false);
        }
        Constructor<?>[] constructors = ShellHeap.class.getDeclaredConstructors();
        checks.due("constructors", constructors.length, 1);
        checks.due("its parameters", constructors[0].getParameterCount(), 0);
        checks.due("it is public", Modifier.isPublic(constructors[0].getModifiers()), true);
        checks.due("the class is final", Modifier.isFinal(ShellHeap.class.getModifiers()), true);
    }

    private static final int[][] FINDS = feeds("k0 s0: left 5, right 3, gnawed 1; k0 s3: whole 7;");
    private static final int[][] RULES = feeds("cause a: size < then size and not (holds = 1 or food > 2);cause b: season + rank;");

    private static int[][] feeds(String text) {
        int[][] feeds = new int[(text.length() + 19) / 20][];
        for (int i = 0; i < feeds.length; i++) {
            feeds[i] = Texts.feedOf(text, 20 * i);
        }
        return feeds;
    }

    private static int feed(ShellHeap x, int[][] feeds) {
        for (int[] f : feeds) {
            x.feed(f[0], f[1], f[2], f[3], f[4]);
        }
        return 20 * feeds.length;
    }

    private static long callAll(ShellHeap x, int i) {
        long sum = x.layer() + x.note(0, i % 12, 0, 0) + x.note(2, 1, 2, 0) + x.note(3, i % 12, i, 5000) + x.strike(i);
        sum += x.kind(3, 2) + x.column(i % 6, i / 6) + x.measure(i % 12, 3, 4, 5) + x.readings(i % 12, i % 3, 2, 1, 0, 1);
        sum += x.finds(feed(x, FINDS), 0) + x.rules(feed(x, RULES)) + x.fault(0);
        sum += x.bed(i, 0, 3) + x.order(i, 1, 0) + x.quarrel(i) + x.holds(1, 2) + x.eaten(1, 0, 1) + x.days(0, 3, 4);
        sum += x.season(0, 1, 4) + x.stay(1) + x.middle(1, 0) + x.cause(0, 1) + x.why(1) + x.count(0);
        sum += x.thick(0, 1, 2) ? 1 : 0;
        sum += x.kept(0, 1, 2) ? 1 : 0;
        sum += x.reads(0, 1, 4, 4, 4, 4) ? 1 : 0;
        return sum + (i % 9 == 8 && x.heap(5, 5) ? 1 : 0);
    }

    private void room() {
        ThreadMXBean threads = (ThreadMXBean) ManagementFactory.getThreadMXBean();
        long me = Thread.currentThread().getId();
        long sum = 0;
        ShellHeap first = new ShellHeap();
        for (int i = 0; i < 12; i++) {
            sum += callAll(first, i);
        }
        ShellHeap x = new ShellHeap();
        long before = threads.getThreadAllocatedBytes(me);
        long unused = threads.getThreadAllocatedBytes(me) - before;
        before = threads.getThreadAllocatedBytes(me);
        for (int i = 0; i < 12; i++) {
            sum += callAll(x, i);
        }
        long made = threads.getThreadAllocatedBytes(me) - before - unused;
        checks.due("bytes made by 12 rounds of all calls (sum " + sum + ") are none", made, 0);
        before = threads.getThreadAllocatedBytes(me);
        ShellHeap one = new ShellHeap();
        made = threads.getThreadAllocatedBytes(me) - before - unused;
        checks.due("a new object of " + made + " bytes (" + one.count(1) + ") is small", made < 100000, true);
    }
}
