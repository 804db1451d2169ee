import java.io.DataInputStream;
import java.io.IOException;
import java.io.InputStream;
import java.util.Set;
import java.util.TreeSet;

/** What a compiled class names in its table of constants: the methods and fields of other classes that it uses. */
final class ClassFile {
    private static final int TEXT = 1;
    private static final int LONG = 5;
    private static final int DOUBLE = 6;
    private static final int CLASS = 7;
    private static final int FIELD = 9;
    private static final int METHOD = 10;
    private static final int INTERFACE_METHOD = 11;
    private static final int NAME_AND_TYPE = 12;

    private final int[] kinds;
    private final int[] firsts;
    private final int[] seconds;
    private final String[] texts;

    private ClassFile(DataInputStream in) throws IOException {
        in.readInt();
        in.readInt();
        int constants = in.readUnsignedShort();
        kinds = new int[constants];
        firsts = new int[constants];
        seconds = new int[constants];
        texts = new String[constants];
        for (int i = 1; i < constants; i++) {
            kinds[i] = in.readUnsignedByte();
            readConstant(in, i);
            // The class file's form gives these two places.
            i += kinds[i] == LONG || kinds[i] == DOUBLE ? 1 : 0;
        }
    }

    /** Each as class.name, those of the program's own classes and of arrays left out. */
    static Set<String> usedBy(Class<?> type) throws IOException {
        try (InputStream in = type.getResourceAsStream("/" + type.getName() + ".class")) {
            return new ClassFile(new DataInputStream(in)).used();
        }
    }

    private void readConstant(DataInputStream in, int i) throws IOException {
        switch (kinds[i]) {
            case TEXT -> texts[i] = in.readUTF();
            case 3, 4 -> in.readInt();
            case LONG, DOUBLE -> in.readLong();
            case CLASS, 8, 16, 19, 20 -> firsts[i] = in.readUnsignedShort();
            case FIELD, METHOD, INTERFACE_METHOD, NAME_AND_TYPE, 17, 18 -> {
                firsts[i] = in.readUnsignedShort();
                seconds[i] = in.readUnsignedShort();
            }
            case 15 -> {
                in.readUnsignedByte();
                in.readUnsignedShort();
            }
            default -> throw new IOException("no such kind of constant");
        }
    }

    private Set<String> used() {
        Set<String> used = new TreeSet<>();
        for (int i = 1; i < kinds.length; i++) {
            if (kinds[i] == FIELD || kinds[i] == METHOD || kinds[i] == INTERFACE_METHOD) {
                String owner = texts[firsts[firsts[i]]];
                if (!owner.startsWith("SoundKernel") && !owner.startsWith("[")) {
                    used.add(owner.replace('/', '.') + "." + texts[firsts[seconds[i]]]);
                }
            }
        }
        return used;
    }
}
