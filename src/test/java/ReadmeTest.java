import java.io.IOException;
import java.nio.file.DirectoryStream;
import java.nio.file.Files;
import java.nio.file.Path;
import java.util.Map;
import java.util.Set;
import java.util.TreeSet;
import java.util.regex.Matcher;
import java.util.regex.Pattern;

/** What README.md says is so: its program with the answers told there, the calls, the classes inside, the tests. */
public final class ReadmeTest {
    private static final Pattern PROGRAM = Pattern.compile("```java\\s(.*?)```", Pattern.DOTALL);
    private static final Pattern ANSWER = Pattern.compile("(?:int|boolean) (\\w+) = kernel\\.[^;]*; +// (-?\\w+)");
    private static final Pattern CALL = Pattern.compile("`(\\w+\\([^`]*\\))`");
    private static final Pattern NAME = Pattern.compile("\\| `(\\w+)` \\|");
    private static final Pattern DECLARED = Pattern.compile("    public (?:int|void|boolean|double) (\\w+\\([^)]*\\))[^{]*\\{");

    private static final Check check = new Check();

    private ReadmeTest() {
    }

    public static void main(String[] args) throws IOException {
        String readme = Files.readString(Path.of("README.md"));
        String use = part(readme, "## Use", "## Inside");
        theProgram(use);
        calls(use);
        check.dueText("the classes inside", namesIn(part(readme, "## Inside", "## Readings")), classesInside());
        check.dueText("the tests", namesIn(readme.substring(readme.indexOf("## Tests"))), testsThere());
        check.due(".ci/run can be run", Files.isExecutable(Path.of(".ci/run")), true);
        check.end();
    }

    private static String part(String text, String from, String to) {
        return text.substring(text.indexOf(from), text.indexOf(to));
    }

    private static void theProgram(String use) throws IOException {
        Matcher program = PROGRAM.matcher(use);
        check.due("there is a program", program.find(), true);
        String ownText = oneBlank(Files.readString(Path.of("src/test/java/ReadmeTest.java")));
        check.due("the program stands in this test too", ownText.contains(oneBlank(program.group(1))), true);
        Map<String, Object> got = example();
        Matcher told = ANSWER.matcher(program.group(1));
        int answers = 0;
        while (told.find()) {
            answers++;
            check.dueText(told.group(1), String.valueOf(got.get(told.group(1))), told.group(2));
        }
        check.due("answers that are told", answers, got.size());
    }

    private static String oneBlank(String text) {
        return text.replaceAll("\\s+", " ");
    }

    /** README.md's program word for word, and behind it each answer under the name that it has there. */
    private static Map<String, Object> example() {
        SoundKernel kernel = new SoundKernel();

        // A program that plays: two channels of 16 bits, at the card's own rate.
        int player = kernel.open(true, 48000, 2, 16);      // 0: the client's number
        kernel.gain(player, 0.5);
        kernel.start(player);
        for (int frame = 0; frame < 24; frame++) {
            kernel.write(player, 1000);                    // left
            kernel.write(player, -1000);                   // right
        }
        int periods = kernel.ahead(player);                // 1: what was written is enough for one period
        boolean made = kernel.prepare();                   // true: a period of 24 frames is made ready
        boolean heard = kernel.card();                     // true: the card plays it
        int left = kernel.played(0, 0, false);             // 500: half of 1000, by the gain
        int right = kernel.played(0, 0, true);             // -500

        // A program that listens: one channel of 8 bits, at 8,000 frames a second.
        int listener = kernel.open(false, 8000, 1, 8);     // 1
        kernel.start(listener);
        for (int frame = 0; frame < 24; frame++) {
            kernel.coming(frame, false, 12800);            // what the card will capture next
            kernel.coming(frame, true, 12800);
        }
        boolean ready = kernel.card();                     // false: no period was ready, but one is captured
        int numbers = kernel.room(listener);               // 3: so many can be read
        int first = kernel.read(listener);                 // 157: the filter still hears the zeros before

        // The end: what was written is played, then the client is stopped.
        kernel.drain(player);
        kernel.prepare();
        int state = kernel.state(player);                  // 4: STOPPED
        kernel.close(player);

        return Map.ofEntries(Map.entry("player", player), Map.entry("periods", periods), Map.entry("made", made),
                Map.entry("heard", heard), Map.entry("left", left), Map.entry("right", right),
                Map.entry("listener", listener), Map.entry("ready", ready), Map.entry("numbers", numbers),
                Map.entry("first", first), Map.entry("state", state));
    }

    /** Each method of the face is told, with its parameters' names, and nothing that is none. */
    private static void calls(String use) throws IOException {
        Set<String> told = new TreeSet<>();
        for (String row : use.split("\n")) {
            if (row.startsWith("| `")) {
                addAll(told, CALL.matcher(row));
            }
        }
        Set<String> declared = new TreeSet<>();
        Matcher method = DECLARED.matcher(Files.readString(Path.of("src/main/java/SoundKernel.java")));
        while (method.find()) {
            declared.add(method.group(1).replaceAll("\\b(?:int|boolean|double) ", ""));
        }
        check.dueText("the calls", String.join("; ", told), String.join("; ", declared));
        check.due("how many", declared.size(), 22);
    }

    private static String namesIn(String part) {
        Set<String> names = new TreeSet<>();
        addAll(names, NAME.matcher(part));
        return String.join(" ", names);
    }

    private static void addAll(Set<String> names, Matcher matcher) {
        while (matcher.find()) {
            names.add(matcher.group(1));
        }
    }

    private static String classesInside() {
        Set<String> names = new TreeSet<>();
        for (Class<?> inside : SoundKernel.class.getDeclaredClasses()) {
            names.add(inside.getSimpleName());
        }
        return String.join(" ", names);
    }

    private static String testsThere() throws IOException {
        Set<String> names = new TreeSet<>();
        try (DirectoryStream<Path> tests = Files.newDirectoryStream(Path.of("src/test/java"), "*Test.java")) {
            for (Path test : tests) {
                names.add(test.getFileName().toString().replace(".java", ""));
            }
        }
        return String.join(" ", names);
    }
}
