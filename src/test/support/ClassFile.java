import java.io.DataInputStream;
import java.io.IOException;
import java.io.InputStream;
import java.util.ArrayList;
import java.util.List;
import java.util.Map;
import java.util.TreeMap;

/** What the methods of a compiled class do: whom they call, what they make, and whether they throw or catch. */
final class ClassFile {
    // Of each operation of the machine, its bytes in all; 0 for those that are wide or a switch.
    private static final String LENGTHS = "1".repeat(16) + "23" + "233" + "22222" + "1".repeat(20) + "1".repeat(8)
        + "22222" + "1".repeat(20) + "1".repeat(8) + "1".repeat(45) + "3" + "1".repeat(20) + "3".repeat(16)
        + "2" + "00" + "111111" + "3333333" + "55" + "3" + "2" + "3" + "11" + "33" + "11" + "0" + "4" + "33" + "55";
    private static final int TABLE_SWITCH = 170;
    private static final int LOOKUP_SWITCH = 171;
    private static final int INVOKE_FIRST = 182;
    private static final int INVOKE_LAST = 186;
    private static final int THROW = 191;
    private static final int CAST = 192;
    private static final int WIDE = 196;

    /** The methods that are called, by the one that calls them: class, point, name and types. */
    final Map<String, List<String>> calls = new TreeMap<>();
    /** The methods with an operation that a program without throw, catch or cast has none of. */
    final List<String> throwing = new ArrayList<>();
    private Object[] pool;
    private final DataInputStream in;

    ClassFile(Class<?> of) throws IOException {
        try (InputStream stream = of.getResourceAsStream("/" + of.getName() + ".class")) {
            in = new DataInputStream(stream);
            in.skipNBytes(8);
            readPool();
            in.skipNBytes(6);
            in.skipNBytes(2L * in.readUnsignedShort());
            readMembers(of.getName());
            readMembers(of.getName());
        }
    }

    private void readPool() throws IOException {
        pool = new Object[in.readUnsignedShort()];
        for (int i = 1; i < pool.length; i++) {
            int tag = in.readUnsignedByte();
            switch (tag) {
                case 1: pool[i] = in.readUTF(); break;
                case 5: case 6: in.skipNBytes(8); i++; break;
                case 7: case 8: case 16: case 19: case 20: pool[i] = new int[] {in.readUnsignedShort()}; break;
                case 15: in.skipNBytes(3); break;
                case 3: case 4: in.skipNBytes(4); break;
                default: pool[i] = new int[] {in.readUnsignedShort(), in.readUnsignedShort()}; break;
            }
        }
    }

    private int part(int entry, int which) {
        return ((int[]) pool[entry])[which];
    }

    private String reference(int entry) {
        String owner = (String) pool[part(part(entry, 0), 0)];
        int nameAndType = part(entry, 1);
        return owner + "." + pool[part(nameAndType, 0)] + pool[part(nameAndType, 1)];
    }

    /** Fields and methods are written alike; fields have no code. */
    private void readMembers(String owner) throws IOException {
        int many = in.readUnsignedShort();
        for (int i = 0; i < many; i++) {
            in.skipNBytes(2);
            String member = owner + "." + pool[in.readUnsignedShort()] + pool[in.readUnsignedShort()];
            int attributes = in.readUnsignedShort();
            for (int j = 0; j < attributes; j++) {
                boolean isCode = pool[in.readUnsignedShort()].equals("Code");
                int length = in.readInt();
                if (isCode) {
                    readCode(member);
                } else {
                    in.skipNBytes(length);
                }
            }
        }
    }

    private void readCode(String member) throws IOException {
        in.skipNBytes(4);
        byte[] code = in.readNBytes(in.readInt());
        calls.put(member, new ArrayList<>());
        for (int at = 0; at < code.length; at += length(code, at)) {
            look(member, code, at);
        }
        int handlers = in.readUnsignedShort();
        if (handlers > 0) {
            throwing.add(member);
        }
        in.skipNBytes(8L * handlers);
        int attributes = in.readUnsignedShort();
        for (int i = 0; i < attributes; i++) {
            in.skipNBytes(2);
            in.skipNBytes(in.readInt());
        }
    }

    private void look(String member, byte[] code, int at) {
        int operation = code[at] & 255;
        if (operation >= INVOKE_FIRST && operation <= INVOKE_LAST) {
            int entry = (code[at + 1] & 255) << 8 | code[at + 2] & 255;
            calls.get(member).add(operation == INVOKE_LAST ? "a lambda" : reference(entry));
        }
        if (operation == THROW || operation == CAST) {
            throwing.add(member);
        }
    }

    private static int length(byte[] code, int at) {
        int operation = code[at] & 255;
        int table = (at + 4) / 4 * 4;
        switch (operation) {
            case TABLE_SWITCH:
                return table + 12 + 4 * (whole(code, table + 8) - whole(code, table + 4) + 1) - at;
            case LOOKUP_SWITCH:
                return table + 8 + 8 * whole(code, table + 4) - at;
            case WIDE:
                return (code[at + 1] & 255) == 132 ? 6 : 4;
            default:
                return LENGTHS.charAt(operation) - '0';
        }
    }

    private static int whole(byte[] code, int at) {
        return (code[at] & 255) << 24 | (code[at + 1] & 255) << 16 | (code[at + 2] & 255) << 8 | code[at + 3] & 255;
    }
}
