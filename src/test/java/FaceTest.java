import java.lang.reflect.Constructor;
import java.lang.reflect.Field;
import java.lang.reflect.Member;
import java.lang.reflect.Method;
import java.lang.reflect.Modifier;
import java.util.Set;
import java.util.TreeSet;

/** The class has the document's face, and no other member that can be seen. */
public final class FaceTest {
    private static final String[] FACE = {
        "NONE int", "SoundKernel()", "ahead(int) int", "card() boolean", "clipped() int", "close(int) void",
        "coming(int,boolean,int) void", "drain(int) void", "gain(int,double) void", "late(int) int", "level(int) double",
        "limit(boolean) boolean", "open(boolean,int,int,int) int", "pause(int) void", "played(int,int,boolean) int",
        "position(int) int", "prepare() boolean", "read(int) int", "room(int) int", "start(int) void", "state(int) int",
        "tap(int,int) int", "value() int", "write(int,int) boolean",
    };

    private FaceTest() {
    }

    public static void main(String[] args) {
        Check check = new Check();
        int modifiers = SoundKernel.class.getModifiers();
        check.due("the class is public", Modifier.isPublic(modifiers), true);
        check.due("the class is final", Modifier.isFinal(modifiers), true);
        check.dueText("the face", String.join("; ", seen()), String.join("; ", FACE));
        check.due("NONE", SoundKernel.NONE, -1);
        check.due("private methods with a public name", hidden(), 0);
        check.end();
    }

    private static Set<String> seen() {
        Set<String> seen = new TreeSet<>();
        for (Field f : SoundKernel.class.getDeclaredFields()) {
            if (isSeen(f)) {
                seen.add(f.getName() + " " + f.getType());
            }
        }
        for (Constructor<?> c : SoundKernel.class.getDeclaredConstructors()) {
            if (isSeen(c)) {
                seen.add("SoundKernel" + parameters(c.getParameterTypes()));
            }
        }
        for (Method m : SoundKernel.class.getDeclaredMethods()) {
            if (isSeen(m)) {
                seen.add(m.getName() + parameters(m.getParameterTypes()) + " " + m.getReturnType());
            }
        }
        return seen;
    }

    private static boolean isSeen(Member m) {
        return !Modifier.isPrivate(m.getModifiers()) && !m.isSynthetic();
    }

    private static String parameters(Class<?>[] types) {
        StringBuilder text = new StringBuilder("(");
        for (Class<?> type : types) {
            text.append(text.length() > 1 ? "," : "").append(type.getName());
        }
        return text.append(")").toString();
    }

    private static int hidden() {
        Set<String> names = new TreeSet<>();
        for (String member : seen()) {
            names.add(member.split("[( ]")[0]);
        }
        int hidden = countPrivate(SoundKernel.class, names);
        for (Class<?> inside : SoundKernel.class.getDeclaredClasses()) {
            hidden += countPrivate(inside, names);
        }
        return hidden;
    }

    private static int countPrivate(Class<?> type, Set<String> names) {
        int count = 0;
        for (Method m : type.getDeclaredMethods()) {
            count += Modifier.isPrivate(m.getModifiers()) && names.contains(m.getName()) ? 1 : 0;
        }
        return count;
    }
}
