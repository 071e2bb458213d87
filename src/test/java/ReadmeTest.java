import java.io.IOException;
import java.lang.reflect.Method;
import java.nio.file.Files;
import java.nio.file.Path;
import java.util.ArrayList;
import java.util.Arrays;
import java.util.List;
import java.util.regex.Matcher;
import java.util.regex.Pattern;

/** README.md names every call of the face with all that it takes, and what it says that calls answer is so. */
final class ReadmeTest {
    private static final Path README = Path.of("README.md");
    private static final Path COMMAND = Path.of(".ci/run");
    private static final Pattern OF_THE_FACE = Pattern.compile("public ((?:int|long|boolean) \\w+\\(([^)]*)\\)[^;]*);");
    private static final Pattern EXAMPLE = Pattern.compile("desk\\.(\\w+)\\(([^)]*)\\);\\s*// (true|false|-?\\d+)");
    private static final Pattern TEXT = Pattern.compile("A text of (finds|rules): `([^`]*)`");
    private static final int CALLS = 27;

    private final Checks checks = new Checks();
    private final String readme;
    /** As README.md is read on a page: where its lines end is free. */
    private final String words;

    private ReadmeTest() throws IOException {
        readme = Files.readString(README);
        words = readme.replaceAll("\\s+", " ");
    }

    public static void main(String[] args) throws Exception {
        ReadmeTest test = new ReadmeTest();
        test.everyCall();
        test.examples();
        test.texts();
        test.command();
        test.checks.end();
    }

    private void everyCall() {
        int calls = 0;
        Matcher face = OF_THE_FACE.matcher(Document.words());
        while (face.find()) {
            calls++;
            String call = face.group(1);
            String entry = entryOf(call);
            checks.due("that README.md tells what is taken by " + call, entry.startsWith("Takes "), true);
            checks.due("that README.md tells what is answered by " + call, entry.contains(" Answers "), true);
            for (String name : namesOf(face.group(2))) {
                checks.due("that README.md tells of " + name + " in " + call, entry.contains("`" + name + "`"), true);
            }
        }
        checks.due("calls of the document's face", calls, CALLS);
        checks.due("that README.md names the constructor", words.contains("`ShellHeap()`"), true);
        checks.due("that README.md names NONE", words.contains("`NONE` is " + ShellHeap.NONE), true);
    }

    /** What is said of a call, up to the next call or heading. */
    private String entryOf(String call) {
        String start = "- `" + call + "`: ";
        int from = words.indexOf(start);
        if (from < 0) {
            return "";
        }
        String rest = words.substring(from + start.length());
        Matcher end = Pattern.compile(" - `| ##").matcher(rest);
        return end.find() ? rest.substring(0, end.start()) : rest;
    }

    private static List<String> namesOf(String parameters) {
        List<String> names = new ArrayList<>();
        for (String parameter : parameters.isEmpty() ? new String[0] : parameters.split(", ")) {
            names.add(parameter.substring(parameter.indexOf(' ') + 1));
        }
        return names;
    }

    private void examples() throws Exception {
        ShellHeap desk = new ShellHeap();
        int calls = 0;
        Matcher example = EXAMPLE.matcher(readme);
        while (example.find()) {
            calls++;
            Object[] numbers = numbersOf(example.group(2));
            Object got = method(example.group(1)).invoke(desk, numbers);
            String call = example.group(1) + Arrays.toString(numbers);
            checks.due(call + " answered " + got + ", in README.md " + example.group(3),
                    got.toString().equals(example.group(3)), true);
        }
        int written = readme.split("\ndesk\\.", -1).length - 1;
        checks.due("calls in README.md that tell what they answer", calls, written);
        checks.due("that there are such", calls > 0, true);
    }

    private static Method method(String name) {
        for (Method method : ShellHeap.class.getMethods()) {
            if (method.getName().equals(name)) {
                return method;
            }
        }
        throw new IllegalStateException("README.md calls " + name + ", which there is not");
    }

    private static Object[] numbersOf(String list) {
        List<Object> numbers = new ArrayList<>();
        for (String number : list.isEmpty() ? new String[0] : list.split(", ")) {
            numbers.add(Long.decode(number).intValue());
        }
        return numbers.toArray();
    }

    private void texts() {
        ShellHeap desk = Desks.withLayers(1);
        desk.kind(1, 2);
        desk.kind(1, 1);
        Matcher text = TEXT.matcher(words);
        int texts = 0;
        while (text.find()) {
            texts++;
            if (text.group(1).equals("finds")) {
                Texts.finds(desk, text.group(2), 0);
            } else {
                Texts.rules(desk, text.group(2));
            }
            checks.due("the fault of " + text.group(2), desk.fault(0), 0);
        }
        checks.due("texts in README.md", texts, 2);
        checks.due("finds read from README.md", desk.count(2), 1);
        checks.due("causes read from README.md", desk.count(6), 2);
    }

    private void command() {
        checks.due("that README.md tells the command", readme.contains("```sh\n.ci/run\n```"), true);
        checks.due("that the command can be run", Files.isExecutable(COMMAND), true);
    }
}
