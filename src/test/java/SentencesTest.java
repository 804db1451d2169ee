import java.io.IOException;
import java.nio.file.DirectoryStream;
import java.nio.file.Files;
import java.nio.file.Path;
import java.util.regex.Matcher;
import java.util.regex.Pattern;

/** Every sentence of the document's terms and promises is quoted by a test, in a call of {@link Check#says}. */
public final class SentencesTest {
    private static final Pattern SAYS = Pattern.compile("\\.says\\(((?:\\s*\"[^\"]*\",?)+)\\)");
    private static final Pattern QUOTE = Pattern.compile("\"([^\"]*)\"");
    private static final Pattern NO_SENTENCE = Pattern.compile("## Terms|## Promise [^`]*|```(text)?|`[A-Za-z][^`]*`");
    private static final Pattern WORDS = Pattern.compile("[^\\s.,;:()].*");

    private final String text = Document.text();
    private final boolean[] quoted = new boolean[text.length()];

    private SentencesTest() {
    }

    public static void main(String[] args) throws IOException {
        Check check = new Check();
        SentencesTest it = new SentencesTest();
        int quotes = it.markQuotes();
        it.markMatches(NO_SENTENCE);
        check.due("there are quotes", quotes > 0, true);
        check.dueText("words that no test quotes", it.notQuoted(), "");
        check.end();
    }

    private int markQuotes() throws IOException {
        int quotes = 0;
        try (DirectoryStream<Path> tests = Files.newDirectoryStream(Path.of("src/test/java"), "*Test.java")) {
            for (Path test : tests) {
                Matcher says = SAYS.matcher(Files.readString(test));
                while (says.find()) {
                    Matcher quote = QUOTE.matcher(says.group(1));
                    while (quote.find()) {
                        markMatches(Pattern.compile(quote.group(1), Pattern.LITERAL));
                        quotes++;
                    }
                }
            }
        }
        return quotes;
    }

    private void markMatches(Pattern pattern) {
        Matcher matcher = pattern.matcher(text);
        while (matcher.find()) {
            for (int i = matcher.start(); i < matcher.end(); i++) {
                quoted[i] = true;
            }
        }
    }

    private String notQuoted() {
        StringBuilder rest = new StringBuilder();
        int end = text.indexOf("## Not promised");
        for (int i = text.indexOf("## Terms"); i < end; i++) {
            rest.append(quoted[i] ? '\n' : text.charAt(i));
        }
        StringBuilder words = new StringBuilder();
        for (String part : rest.toString().split("\n+")) {
            if (WORDS.matcher(part.strip()).find()) {
                words.append(" '").append(part.strip()).append('\'');
            }
        }
        return words.toString();
    }
}
