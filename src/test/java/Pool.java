import java.io.DataInputStream;
import java.io.IOException;
import java.io.InputStream;
import java.util.Set;
import java.util.TreeSet;

/** What a compiled class uses of other classes, read off its constant pool. */
final class Pool {
    private static final int UTF8 = 1;
    private static final int INTEGER = 3;
    private static final int FLOAT = 4;
    private static final int LONG = 5;
    private static final int DOUBLE = 6;
    private static final int CLASS = 7;
    private static final int STRING = 8;
    private static final int FIELD = 9;
    private static final int METHOD = 10;
    private static final int OF_INTERFACE = 11;
    private static final int NAME_AND_TYPE = 12;

    private final int[] kinds;
    private final String[] texts;
    private final int[] firsts;
    private final int[] seconds;

    private Pool(DataInputStream in) throws IOException {
        in.readInt();
        in.readInt();
        int count = in.readUnsignedShort();
        kinds = new int[count];
        texts = new String[count];
        firsts = new int[count];
        seconds = new int[count];
        for (int i = 1; i < count; i++) {
            readEntry(in, i);
            // Wide numbers take two places.
            i += kinds[i] == LONG || kinds[i] == DOUBLE ? 1 : 0;
        }
    }

    private void readEntry(DataInputStream in, int i) throws IOException {
        kinds[i] = in.readUnsignedByte();
        switch (kinds[i]) {
            case UTF8 -> texts[i] = in.readUTF();
            case INTEGER, FLOAT -> in.readInt();
            case LONG, DOUBLE -> in.readLong();
            case CLASS, STRING -> firsts[i] = in.readUnsignedShort();
            case FIELD, METHOD, OF_INTERFACE, NAME_AND_TYPE -> {
                firsts[i] = in.readUnsignedShort();
                seconds[i] = in.readUnsignedShort();
            }
            default -> throw new IOException("a constant of the kind " + kinds[i] + ", as of a lambda or joined texts");
        }
    }

    /** Each class as "java/util/List", each method and field as "java/util/List.size". */
    static Set<String> usedBy(Class<?> one) throws IOException {
        String file = one.getName() + ".class";
        try (InputStream stream = one.getClassLoader().getResourceAsStream(file)) {
            Pool pool = new Pool(new DataInputStream(stream));
            Set<String> used = new TreeSet<>();
            for (int i = 0; i < pool.kinds.length; i++) {
                int kind = pool.kinds[i];
                if (kind == CLASS) {
                    used.add(pool.className(i));
                } else if (kind == FIELD || kind == METHOD || kind == OF_INTERFACE) {
                    used.add(pool.className(pool.firsts[i]) + "." + pool.texts[pool.firsts[pool.seconds[i]]]);
                }
            }
            return used;
        }
    }

    private String className(int index) {
        return texts[firsts[index]];
    }
}
