import java.io.IOException;
import java.lang.reflect.Constructor;
import java.lang.reflect.Field;
import java.lang.reflect.Member;
import java.lang.reflect.Method;
import java.lang.reflect.Modifier;
import java.nio.file.Files;
import java.nio.file.Path;
import java.util.List;
import java.util.Set;
import java.util.TreeSet;

/** The class has the document's face, and no other member that can be seen. */
public final class FaceTest {
    private static final String ARGUMENT = " throws java.lang.IllegalArgumentException";
    private static final String STATE_TOO = ARGUMENT + ",java.lang.IllegalStateException";
    private static final String[] FACE = {
        "NONE int", "SoundKernel()", "ahead(int) int" + ARGUMENT, "card() boolean", "clipped() int",
        "close(int) void" + ARGUMENT, "coming(int,boolean,int) void" + ARGUMENT, "drain(int) void" + STATE_TOO,
        "gain(int,double) void" + ARGUMENT, "late(int) int" + ARGUMENT, "level(int) double" + ARGUMENT,
        "limit(boolean) boolean", "open(boolean,int,int,int) int" + STATE_TOO, "pause(int) void" + STATE_TOO,
        "played(int,int,boolean) int" + ARGUMENT, "position(int) int" + ARGUMENT, "prepare() boolean",
        "read(int) int" + STATE_TOO, "room(int) int" + ARGUMENT, "start(int) void" + STATE_TOO,
        "state(int) int" + ARGUMENT, "tap(int,int) int" + ARGUMENT, "value() int", "write(int,int) boolean" + STATE_TOO,
    };

    private FaceTest() {
    }

    public static void main(String[] args) throws IOException {
        Check check = new Check();
        int modifiers = SoundKernel.class.getModifiers();
        check.due("the class is public", Modifier.isPublic(modifiers), true);
        check.due("the class is final", Modifier.isFinal(modifiers), true);
        check.dueText("the face", String.join("; ", seen()), String.join("; ", FACE));
        asWritten(check);
        check.due("NONE", SoundKernel.NONE, -1);
        check.due("private methods with a public name", hidden(), 0);
        check.end();
    }

    /** The document's text is compared as well, for the parameters' names, and so that FACE can't go astray from it. */
    private static void asWritten(Check check) throws IOException {
        List<String> source = Files.readAllLines(Path.of("src/main/java/SoundKernel.java"));
        int methods = 0;
        for (String line : Files.readAllLines(Path.of("../shared/DOC.md"))) {
            if (line.startsWith("    public ") && line.contains("(") && !line.endsWith(" SoundKernel();")) {
                methods++;
                String declared = line.substring(0, line.length() - 1) + " {";
                check.due(line.strip() + " is declared so", source.contains(declared), true);
            }
        }
        check.due("methods in the document", methods, 22);
    }

    private static Set<String> seen() {
        Set<String> seen = new TreeSet<>();
        for (Field f : SoundKernel.class.getDeclaredFields()) {
            if (isSeen(f)) {
                seen.add(f.getName() + " " + f.getType());
            }
        }
        for (Constructor<?> c : SoundKernel.class.getDeclaredConstructors()) {
            if (isSeen(c)) {
                seen.add("SoundKernel" + parameters(c.getParameterTypes()) + thrown(c.getExceptionTypes()));
            }
        }
        for (Method m : SoundKernel.class.getDeclaredMethods()) {
            if (isSeen(m)) {
                seen.add(m.getName() + parameters(m.getParameterTypes()) + " " + m.getReturnType()
                        + thrown(m.getExceptionTypes()));
            }
        }
        return seen;
    }

    private static boolean isSeen(Member m) {
        return !Modifier.isPrivate(m.getModifiers()) && !m.isSynthetic();
    }

    private static String parameters(Class<?>[] types) {
        return "(" + names(types) + ")";
    }

    /** The order is the declaration's, as the document's order is asked for too. */
    private static String thrown(Class<?>[] types) {
        return types.length == 0 ? "" : " throws " + names(types);
    }

    private static String names(Class<?>[] types) {
        StringBuilder text = new StringBuilder();
        for (Class<?> type : types) {
            text.append(text.length() > 0 ? "," : "").append(type.getName());
        }
        return text.toString();
    }

    private static int hidden() {
        Set<String> names = new TreeSet<>();
        for (String member : seen()) {
            names.add(member.split("[( ]")[0]);
        }
        int hidden = countPrivate(SoundKernel.class, names);
        for (Class<?> inside : SoundKernel.class.getDeclaredClasses()) {
            hidden += countPrivate(inside, names);
        }
        return hidden;
    }

    private static int countPrivate(Class<?> type, Set<String> names) {
        int count = 0;
        for (Method m : type.getDeclaredMethods()) {
            count += Modifier.isPrivate(m.getModifiers()) && names.contains(m.getName()) ? 1 : 0;
        }
        return count;
    }
}
