import java.io.IOException;
import java.io.UncheckedIOException;
import java.nio.file.Files;
import java.nio.file.Path;

/** The document's text, with each run of blanks and line ends as one blank. */
final class Document {
    private static final String TEXT = load();

    private Document() {
    }

    static String text() {
        return TEXT;
    }

    /** How often a quote stands in it: one that stands there once tells which sentence is meant. */
    static int times(String quote) {
        int times = 0;
        for (int at = TEXT.indexOf(quote); at >= 0; at = TEXT.indexOf(quote, at + 1)) {
            times++;
        }
        return times;
    }

    private static String load() {
        try {
            return Files.readString(Path.of("../shared/DOC.md")).replaceAll("\\s+", " ");
        } catch (IOException e) {
            throw new UncheckedIOException(e);
        }
    }
}
