import java.io.IOException;
import java.io.UncheckedIOException;
import java.nio.charset.StandardCharsets;
import java.nio.file.Files;
import java.nio.file.Path;

/** The words of the document, each row of blanks as one blank, so that a sentence may be looked for over its lines. */
final class Document {
    private static final Path PLACE = Path.of("../shared/DOC.md");

    private Document() {
    }

    static String words() {
        try {
            return Files.readString(PLACE, StandardCharsets.UTF_8).replaceAll("\\s+", " ");
        } catch (IOException gone) {
            throw new UncheckedIOException(gone);
        }
    }
}
