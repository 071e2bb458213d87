import java.util.stream.IntStream;

/**
 * Checks at the edges that the document names: each is told with the sentence that it stands under, and the sentence
 * must be the document's, word by word. SentencesTest looks that no sentence is left out.
 */
final class Edges {
    static final int MIN = Integer.MIN_VALUE;
    static final int MAX = Integer.MAX_VALUE;

    private final Checks checks = new Checks();
    private final String document = Document.words();
    private String sentence = "";

    void sentence(String words) {
        sentence = words;
        checks.due("that the document says \"" + words + "\"", document.contains(words), true);
    }

    void due(String what, long got, long want) {
        checks.due("\"" + sentence + "\": " + what, got, want);
    }

    void due(String what, boolean got, boolean want) {
        checks.due("\"" + sentence + "\": " + what, got, want);
    }

    void same(String what, String got, String want) {
        if (got.equals(want)) {
            due(what, true, true);
        } else {
            due(what + ": " + got + " is not " + want, false, true);
        }
    }

    /** What lies right beyond both ends of a range, and as far beyond them as an int goes. */
    static int[] beyond(int least, int greatest) {
        return IntStream.of(least - 1, greatest + 1, least - 2, greatest + 2, MIN, MIN + 1, MAX - 1, MAX)
                .filter(i -> i < least || i > greatest).distinct().toArray();
    }

    void end() {
        checks.end();
    }
}
