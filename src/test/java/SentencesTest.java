import java.io.IOException;
import java.nio.file.Files;
import java.nio.file.Path;
import java.util.ArrayList;
import java.util.Arrays;
import java.util.List;
import java.util.regex.Matcher;
import java.util.regex.Pattern;
import java.util.stream.Collectors;
import java.util.stream.Stream;

/** Every sentence of the document that promises something stands, word by word, over some test of its edges. */
final class SentencesTest {
    private static final Path TESTS = Path.of("src/test/java");
    private static final Pattern QUOTE = Pattern.compile("sentence\\(\"((?:[^\"\\\\]|\\\\.)*)\"\\)");
    /** What only leads from one sentence to the next. */
    private static final Pattern NO_SENTENCE = Pattern.compile("## Terms|THE BOOK\\.|```text|```|==== [1-5]\\.|## Promise \\d+: (A new object|\\w+)");

    private final Checks checks = new Checks();

    public static void main(String[] args) throws IOException {
        SentencesTest test = new SentencesTest();
        test.everySentence();
        test.checks.end();
    }

    private static List<String> quotes() throws IOException {
        List<String> quotes = new ArrayList<>();
        try (Stream<Path> files = Files.list(TESTS)) {
            for (Path file : files.filter(path -> path.toString().endsWith("Test.java")).collect(Collectors.toList())) {
                Matcher found = QUOTE.matcher(Files.readString(file));
                while (found.find()) {
                    quotes.add(found.group(1).replace("\\\"", "\"").replace("\\\\", "\\"));
                }
            }
        }
        return quotes;
    }

    private void everySentence() throws IOException {
        String document = Document.words();
        int from = document.indexOf("## Terms");
        int to = document.indexOf("## Not promised");
        checks.due("that the terms go ahead of what is not promised", from >= 0 && from < to, true);
        boolean[] told = new boolean[document.length()];
        for (String quote : quotes()) {
            checks.due("that the document says \"" + quote + "\"", document.contains(quote), true);
            for (int at = document.indexOf(quote); at >= 0; at = document.indexOf(quote, at + 1)) {
                Arrays.fill(told, at, at + quote.length(), true);
            }
        }
        Matcher leading = NO_SENTENCE.matcher(document);
        while (leading.find()) {
            Arrays.fill(told, leading.start(), leading.end(), true);
        }
        for (String words : untold(document, told, Math.max(from, 0), Math.max(to, 0))) {
            checks.due("a sentence without a test: \"" + words + "\"", 1, 0);
        }
    }

    private static List<String> untold(String document, boolean[] told, int from, int to) {
        StringBuilder left = new StringBuilder();
        for (int i = from; i < to; i++) {
            left.append(told[i] ? '\n' : document.charAt(i));
        }
        return left.toString().lines().map(String::trim).filter(words -> !words.isEmpty()).collect(Collectors.toList());
    }
}
