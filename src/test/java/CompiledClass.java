import java.io.ByteArrayInputStream;
import java.io.DataInputStream;
import java.io.IOException;
import java.io.InputStream;
import java.util.ArrayList;
import java.util.LinkedHashMap;
import java.util.List;
import java.util.Map;

/** What a compiled class calls, method by method, as far as rules are asked of it. */
final class CompiledClass {
    /** A call: the instruction, and what it names. */
    record Call(int instruction, String owner, String method) { }

    static final int INVOKE_SPECIAL = 183;
    static final int INVOKE_STATIC = 184;
    static final int INVOKE_DYNAMIC = 186;
    private static final int TABLE_SWITCH = 170;
    private static final int LOOKUP_SWITCH = 171;
    private static final int THROW = 191;
    private static final int MONITOR_ENTER = 194;
    private static final int MONITOR_EXIT = 195;
    private static final int WIDE = 196;
    private static final int INCREMENT = 132;

    final String name;
    final String above;
    /** By name and types: two methods may bear the same name. */
    final Map<String, List<Call>> methods = new LinkedHashMap<>();
    /** Throws, catches, locks. */
    int forbidden = 0;
    private final Object[] pool;

    CompiledClass(Class<?> loaded) throws IOException {
        String file = loaded.getName() + ".class";
        try (InputStream in = loaded.getResourceAsStream(file); DataInputStream data = new DataInputStream(in)) {
            data.skipBytes(8);
            pool = readPool(data);
            data.skipBytes(2);
            name = className(data.readUnsignedShort());
            above = className(data.readUnsignedShort());
            data.skipBytes(2 * data.readUnsignedShort());
            readMembers(data);
            readMembers(data);
        }
    }

    /** Texts stay texts; what names others stays as their indices. */
    private static Object[] readPool(DataInputStream data) throws IOException {
        Object[] pool = new Object[data.readUnsignedShort()];
        for (int i = 1; i < pool.length; i++) {
            int tag = data.readUnsignedByte();
            switch (tag) {
                case 1 -> pool[i] = data.readUTF();
                case 3, 4 -> data.skipBytes(4);
                case 5, 6 -> {
                    data.skipBytes(8);
                    i++;
                }
                case 7, 8, 16, 19, 20 -> pool[i] = new int[] {data.readUnsignedShort()};
                case 15 -> data.skipBytes(3);
                default -> pool[i] = new int[] {data.readUnsignedShort(), data.readUnsignedShort()};
            }
        }
        return pool;
    }

    private String className(int index) {
        return (String) pool[((int[]) pool[index])[0]];
    }

    private void readMembers(DataInputStream data) throws IOException {
        for (int left = data.readUnsignedShort(); left > 0; left--) {
            data.skipBytes(2);
            String member = pool[data.readUnsignedShort()] + (String) pool[data.readUnsignedShort()];
            for (int attributes = data.readUnsignedShort(); attributes > 0; attributes--) {
                String attribute = (String) pool[data.readUnsignedShort()];
                byte[] bytes = new byte[data.readInt()];
                data.readFully(bytes);
                if (attribute.equals("Code")) methods.put(member, callsOf(bytes));
            }
        }
    }

    private List<Call> callsOf(byte[] attribute) throws IOException {
        DataInputStream data = new DataInputStream(new ByteArrayInputStream(attribute));
        data.skipBytes(4);
        byte[] code = new byte[data.readInt()];
        data.readFully(code);
        forbidden += data.readUnsignedShort();
        List<Call> calls = new ArrayList<>();
        for (int at = 0; at < code.length; at += lengthOf(code, at)) {
            int instruction = code[at] & 255;
            if (instruction == THROW || instruction == MONITOR_ENTER || instruction == MONITOR_EXIT) forbidden++;
            if (instruction >= 182 && instruction <= INVOKE_DYNAMIC) calls.add(callAt(code, at));
        }
        return calls;
    }

    private Call callAt(byte[] code, int at) {
        int[] named = (int[]) pool[(code[at + 1] & 255) << 8 | code[at + 2] & 255];
        int[] method = (int[]) pool[named[1]];
        int instruction = code[at] & 255;
        String owner = instruction == INVOKE_DYNAMIC ? "" : className(named[0]);
        return new Call(instruction, owner, pool[method[0]] + (String) pool[method[1]]);
    }

    private static int lengthOf(byte[] code, int at) {
        int instruction = code[at] & 255;
        int padded = 4 - at % 4;
        switch (instruction) {
            case TABLE_SWITCH:
                return padded + 12 + 4 * (intAt(code, at + padded + 8) - intAt(code, at + padded + 4) + 1);
            case LOOKUP_SWITCH:
                return padded + 8 + 8 * intAt(code, at + padded + 4);
            case WIDE:
                return (code[at + 1] & 255) == INCREMENT ? 6 : 4;
            default:
                return plainLength(instruction);
        }
    }

    private static int intAt(byte[] code, int at) {
        return code[at] << 24 | (code[at + 1] & 255) << 16 | (code[at + 2] & 255) << 8 | code[at + 3] & 255;
    }

    private static int plainLength(int i) {
        if (i == 16 || i == 18 || i >= 21 && i <= 25 || i >= 54 && i <= 58 || i == 169 || i == 188) return 2;
        if (i == 185 || i == 186 || i == 200 || i == 201) return 5;
        if (i == 197) return 4;
        boolean three = i == 17 || i == 19 || i == 20 || i == INCREMENT || i >= 153 && i <= 168 || i >= 178 && i <= 184
            || i == 187 || i == 189 || i == 192 || i == 193 || i == 198 || i == 199;
        return three ? 3 : 1;
    }
}
