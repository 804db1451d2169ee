import java.io.IOException;
import java.lang.reflect.Executable;
import java.lang.reflect.Field;
import java.lang.reflect.Modifier;
import java.nio.charset.StandardCharsets;
import java.nio.file.Files;
import java.nio.file.Path;
import java.util.ArrayList;
import java.util.Arrays;
import java.util.List;
import java.util.Set;
import java.util.TreeSet;
import java.util.regex.Matcher;
import java.util.regex.Pattern;

/** The rules of ../shared/LANGUAGE.md that can be read off the compiled class and its text. */
public final class LanguageTest {
    /** What the class uses of what rule 4 lists, and the exceptions of rule 6; a new one is looked up there, then added. */
    private static final Set<String> LIBRARY = Set.of("java.lang.Object.<init>", "java.lang.Math.abs", "java.lang.Math.max",
            "java.lang.Math.min", "java.lang.Math.floorDiv", "java.lang.Math.floorMod", "java.lang.System.arraycopy",
            "java.util.Arrays.fill", "java.lang.IllegalArgumentException.<init>", "java.lang.IllegalStateException.<init>");
    private static final Set<Class<?>> SIMPLE = Set.of(int.class, long.class, boolean.class, double.class, int[].class);
    private static final Set<Class<?>> CONSTANTS = Set.of(int.class, int[].class);
    private static final Pattern NOT_ALLOWED = Pattern.compile("->|::|\\b(?:try|catch|finally|synchronized|assert|volatile"
            + "|native|equals|hashCode|toString|getClass|package|protected|while \\(true\\)|do \\{)(?!\\w)|for \\(;|@");
    private static final Pattern THROW = Pattern.compile("throw [^;]*;");
    private static final Pattern METHOD = Pattern.compile("(?m)^( +)[a-zA-Z][^=;\\n]*\\) ?(?:throws [^{\\n]*)?\\{\\n((?:(?!\\1\\}).*\\n)*)\\1\\}");

    private static final Check check = new Check();
    private static final List<Class<?>> classes = new ArrayList<>();

    private LanguageTest() {
    }

    public static void main(String[] args) throws IOException {
        classes.add(SoundKernel.class);
        classes.addAll(Arrays.asList(SoundKernel.class.getDeclaredClasses()));
        String source = Files.readString(Path.of("src/main/java/SoundKernel.java"), StandardCharsets.ISO_8859_1);
        String code = source.replaceAll("(?s)/\\*.*?\\*/", "").replaceAll("//[^\\n]*", "");
        check.dueText("files of the program", filesOfTheProgram(), "SoundKernel.java");
        check.dueText("rule 1: the package", SoundKernel.class.getPackageName(), "");
        check.due("rule 3: only characters below 128", source.chars().allMatch(c -> c < 128), true);
        check.due("rule 11: twelve classes at most", classes.size() <= 12, true);
        for (Class<?> type : classes) {
            membersOf(type);
        }
        words(code);
        lengths(code);
        check.end();
    }

    private static String filesOfTheProgram() throws IOException {
        try (var files = Files.walk(Path.of("src/main"))) {
            return String.join(" ", files.filter(Files::isRegularFile).map(f -> f.getFileName().toString()).toList());
        }
    }

    private static void membersOf(Class<?> type) throws IOException {
        String name = type.getName() + ": ";
        if (type != SoundKernel.class) {
            int modifiers = type.getModifiers();
            check.due(name + "rule 1: static, and not to be seen from outside", Modifier.isStatic(modifiers)
                    && !Modifier.isPublic(modifiers) && !Modifier.isProtected(modifiers), true);
            check.due(name + "classes inside it", type.getDeclaredClasses().length, 0);
        }
        Set<String> beyond = new TreeSet<>(ClassFile.usedBy(type));
        beyond.removeAll(LIBRARY);
        check.dueText(name + "rule 4: used beyond the list", String.join(" ", beyond), "");
        fieldsOf(type, name);
        List<Executable> callables = new ArrayList<>(Arrays.asList(type.getDeclaredMethods()));
        callables.addAll(Arrays.asList(type.getDeclaredConstructors()));
        for (Executable callable : callables) {
            check.due(name + callable.getName() + ": rule 11: seven parameters at most", callable.getParameterCount() <= 7, true);
            check.due(name + callable.getName() + ": no lambda's method", callable.isSynthetic(), false);
        }
    }

    private static void fieldsOf(Class<?> type, String name) {
        int fields = type.getSuperclass() == Object.class ? 0 : type.getSuperclass().getDeclaredFields().length;
        for (Field field : type.getDeclaredFields()) {
            String told = name + field.getName();
            Class<?> of = field.getType();
            if (Modifier.isStatic(field.getModifiers())) {
                check.due(told + ": rule 5: a static field is final", Modifier.isFinal(field.getModifiers()), true);
                check.due(told + ": rule 5: a static field's type", CONSTANTS.contains(of), true);
            } else {
                fields++;
                boolean own = classes.contains(of) || of.isArray() && classes.contains(of.getComponentType());
                check.due(told + ": rule 3: a field's type", own || SIMPLE.contains(of) || of == int[][].class, true);
            }
        }
        check.due(name + "rule 11: twenty fields at most", fields <= 20, true);
    }

    private static void words(String code) {
        Matcher word = NOT_ALLOWED.matcher(code);
        while (word.find()) {
            check.dueText("rules 2, 6 and 9: a word of the class", word.group(), "none of these");
        }
        Matcher thrown = THROW.matcher(code);
        while (thrown.find()) {
            boolean right = thrown.group().matches("throw new Illegal(?:Argument|State)Exception\\(\"[^\"]*\"\\);");
            check.due("rule 6: " + thrown.group(), right, true);
        }
        Matcher imported = Pattern.compile("import [^;]*;").matcher(code);
        while (imported.find()) {
            check.dueText("rule 4: what is imported", imported.group(), "import java.util.Arrays;");
        }
        check.due("rule 4: other names of the library", code.replace("import java.util.Arrays;", "").contains("java."), false);
        check.due("rule 5: RATES is never changed", code.matches("(?s).*RATES\\[[^\\]]*\\] *=[^=].*"), false);
    }

    private static void lengths(String code) {
        Matcher method = METHOD.matcher(code);
        int methods = 0;
        while (method.find()) {
            String head = method.group().lines().findFirst().orElse("").strip();
            if (!head.contains("class ")) {
                methods++;
                check.due("rule 11: sixty lines at most: " + head, method.group(2).lines().count() <= 60, true);
            }
        }
        check.due("there are methods", methods > 22, true);
    }
}
