import java.io.DataInputStream;
import java.io.IOException;
import java.io.InputStream;
import java.util.Arrays;
import java.util.HashMap;
import java.util.LinkedHashMap;
import java.util.Map;
import java.util.Set;
import java.util.TreeSet;

/**
 * Calls of the class go at most eight deep, none comes back to itself, and no constructor throws; read from the
 * compiled form.
 */
public final class DepthTest {
    private static final int MOST_DEEP = 8;
    private static final int METHOD = 10;
    private static final int INTERFACE_METHOD = 11;
    private static final Check CHECK = new Check();

    // What each method calls, by "class.name", and the class above each class.
    private final Map<String, Set<String>> calls = new LinkedHashMap<>();
    private final Map<String, String> above = new HashMap<>();
    private final Map<String, Integer> depths = new HashMap<>();

    public static void main(String[] args) throws IOException {
        DepthTest test = new DepthTest();
        test.read(Triplegarth.class);
        for (Class<?> inside : Triplegarth.class.getDeclaredClasses()) {
            test.read(inside);
        }
        CHECK.due("sees calls", true, () -> test.calls.get("Triplegarth.isSound").contains("Triplegarth.tryTo"));
        for (String method : test.calls.keySet()) {
            CHECK.due("at most eight deep: " + method, true, () -> test.depth(method, 0) <= MOST_DEEP);
        }
        int most = test.calls.keySet().stream().mapToInt(method -> test.depth(method, 0)).max().orElse(0);
        System.out.println("the deepest calls, with the first and the last: " + most);
        CHECK.finish("DepthTest");
    }

    /** The calls that stand open at once, with this one; beyond any that can be without one that comes back. */
    private int depth(String method, int open) {
        if (open > 50) {
            return open;
        }
        if (!depths.containsKey(method)) {
            int deepest = 0;
            for (String called : calls.getOrDefault(method, Set.of())) {
                for (String meant : meant(called)) {
                    deepest = Math.max(deepest, depth(meant, open + 1));
                }
            }
            depths.put(method, deepest + 1);
        }
        return depths.get(method);
    }

    /** The method itself, and those of the classes below that stand in its place. */
    private Set<String> meant(String called) {
        String type = called.substring(0, called.lastIndexOf('.'));
        String name = called.substring(called.lastIndexOf('.'));
        Set<String> meant = new TreeSet<>();
        meant.add(called);
        for (String below : above.keySet()) {
            if (above.get(below).equals(type) && !name.equals(".<init>")) {
                meant.add(below + name);
            }
        }
        if (!calls.containsKey(called) && above.containsKey(type)) {
            meant.add(above.get(type) + name);
        }
        return meant;
    }

    private void read(Class<?> type) throws IOException {
        try (InputStream bytes = type.getResourceAsStream("/" + type.getName() + ".class");
                DataInputStream in = new DataInputStream(bytes)) {
            in.skipBytes(8);
            Object[] pool = pool(in);
            in.skipBytes(4);
            above.put(type.getName(), text(pool, in.readUnsignedShort()));
            in.skipBytes(2 * in.readUnsignedShort());
            members(type.getName(), pool, in);
            members(type.getName(), pool, in);
        }
    }

    /** The texts, and the numbers of others that an entry is made of. */
    private static Object[] pool(DataInputStream in) throws IOException {
        Object[] pool = new Object[in.readUnsignedShort()];
        for (int i = 1; i < pool.length; i++) {
            int tag = in.readUnsignedByte();
            if (tag == 1) {
                pool[i] = in.readUTF();
            } else if (tag == 7 || tag == 8 || tag == 16 || tag >= 19) {
                pool[i] = new int[] {tag, in.readUnsignedShort()};
            } else if (tag == 15) {
                in.skipBytes(3);
            } else {
                pool[i] = new int[] {tag, in.readUnsignedShort(), in.readUnsignedShort()};
            }
            if (tag == 5 || tag == 6) {
                in.skipBytes(4);
                i++;
            }
        }
        return pool;
    }

    /** The text of a class, a name with its type, or a method of a class. */
    private static String text(Object[] pool, int index) {
        if (pool[index] instanceof String) {
            return (String) pool[index];
        }
        int[] entry = (int[]) pool[index];
        boolean isMethod = entry[0] == METHOD || entry[0] == INTERFACE_METHOD;
        return text(pool, entry[1]) + (isMethod ? "." + text(pool, entry[2]) : "");
    }

    private void members(String type, Object[] pool, DataInputStream in) throws IOException {
        int members = in.readUnsignedShort();
        for (int member = 0; member < members; member++) {
            in.skipBytes(2);
            String name = type + "." + text(pool, in.readUnsignedShort());
            in.skipBytes(2);
            int attributes = in.readUnsignedShort();
            for (int attribute = 0; attribute < attributes; attribute++) {
                boolean isCode = text(pool, in.readUnsignedShort()).equals("Code");
                byte[] content = new byte[in.readInt()];
                in.readFully(content);
                if (isCode) {
                    int length = number(content, 4, 4);
                    scan(name, pool, Arrays.copyOfRange(content, 8, 8 + length));
                }
            }
        }
    }

    private static int number(byte[] code, int at, int bytes) {
        int number = 0;
        for (int i = 0; i < bytes; i++) {
            number = number << 8 | code[at + i] & 255;
        }
        return number;
    }

    private void scan(String name, Object[] pool, byte[] code) {
        Set<String> called = calls.computeIfAbsent(name, key -> new TreeSet<>());
        for (int at = 0; at < code.length; at += length(code, at)) {
            int step = code[at] & 255;
            if (step >= 182 && step <= 185) {
                called.add(text(pool, number(code, at + 1, 2)));
            }
            CHECK.due("no call that is told at run time in " + name, false, () -> step == 186);
            CHECK.due("no throw in " + name, false, () -> step == 191 && name.endsWith(".<init>"));
        }
    }

    /** How many bytes the step takes, by the numbers of the Java machine. */
    private static int length(byte[] code, int at) {
        int step = code[at] & 255;
        if (step == 170 || step == 171) {
            int told = (at + 4) / 4 * 4;
            int pairs = step == 171 ? 2 * number(code, told + 4, 4)
                    : number(code, told + 8, 4) - number(code, told + 4, 4) + 2;
            return told - at + 8 + 4 * pairs;
        }
        if (step == 196) {
            return (code[at + 1] & 255) == 132 ? 6 : 4;
        }
        if (step == 16 || step == 18 || step >= 21 && step <= 25 || step >= 54 && step <= 58 || step == 169
                || step == 188) {
            return 2;
        }
        if (step == 185 || step == 186 || step == 200 || step == 201) {
            return 5;
        }
        boolean isOfThree = step == 17 || step == 19 || step == 20 || step == 132 || step >= 153 && step <= 168
                || step >= 178 && step <= 184 || step == 187 || step == 189 || step == 192 || step == 193
                || step == 198 || step == 199;
        return step == 197 ? 4 : isOfThree ? 3 : 1;
    }
}
