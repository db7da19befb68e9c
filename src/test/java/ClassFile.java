import java.io.ByteArrayInputStream;
import java.io.DataInputStream;
import java.io.IOException;
import java.io.InputStream;
import java.util.ArrayList;
import java.util.LinkedHashMap;
import java.util.List;
import java.util.Map;

/** What a compiled class tells of its methods: which others each calls, and whether it throws or catches. */
final class ClassFile {
    static final class Body {
        final List<String> calls = new ArrayList<>();
        boolean throwing;
        boolean catching;
    }

    private static final int UTF8 = 1, INTEGER = 3, FLOAT = 4, LONG = 5, DOUBLE = 6, HANDLE = 15, MODULE = 19;
    private static final int TABLE_SWITCH = 170, LOOKUP_SWITCH = 171, FIRST_CALL = 182, MADE_CALL = 186, THROW = 191, WIDE = 196, INCREASE = 132;
    /** The length of each instruction from 0 on; those of a length that is not always the same are told as 0. */
    private static final String LENGTHS = "1111111111111111" + "2323322222" + "1".repeat(28) + "22222" + "1".repeat(73) + "3" + "1".repeat(20)
        + "3".repeat(16) + "2" + "00" + "111111" + "3333333" + "55" + "323" + "11" + "33" + "11" + "0" + "4" + "33" + "55";

    private final DataInputStream in;
    private String name;
    private Object[] pool;

    private ClassFile(InputStream in) {
        this.in = new DataInputStream(in);
    }

    /** Of each method of a class, as "Class.name(kinds)": its body. */
    static Map<String, Body> bodies(Class<?> of) throws IOException {
        String file = of.getName().replace('.', '/') + ".class";
        try (InputStream in = of.getClassLoader().getResourceAsStream(file)) {
            return new ClassFile(in).read();
        }
    }

    private Map<String, Body> read() throws IOException {
        in.readLong();
        readPool();
        in.readUnsignedShort();
        name = textAt(((int[]) pool[in.readUnsignedShort()])[0]);
        in.readUnsignedShort();
        in.skipBytes(2 * in.readUnsignedShort());
        for (int left = in.readUnsignedShort(); left > 0; left--) readMember(null);
        Map<String, Body> bodies = new LinkedHashMap<>();
        for (int left = in.readUnsignedShort(); left > 0; left--) readMember(bodies);
        return bodies;
    }

    private void readPool() throws IOException {
        pool = new Object[in.readUnsignedShort()];
        for (int at = 1; at < pool.length; at++) {
            int tag = in.readUnsignedByte();
            if (tag == UTF8) pool[at] = in.readUTF();
            else if (tag == INTEGER || tag == FLOAT) in.readInt();
            else if (tag == HANDLE) in.skipBytes(3);
            else if (tag == LONG || tag == DOUBLE) {
                in.readLong();
                at++;
            } else if (tag == 7 || tag == 8 || tag == 16 || tag >= MODULE) pool[at] = new int[] {in.readUnsignedShort()};
            else pool[at] = new int[] {in.readUnsignedShort(), in.readUnsignedShort()};
        }
    }

    private String textAt(int at) {
        return (String) pool[at];
    }

    private void readMember(Map<String, Body> bodies) throws IOException {
        in.readUnsignedShort();
        String member = name + "." + textAt(in.readUnsignedShort()) + textAt(in.readUnsignedShort());
        for (int left = in.readUnsignedShort(); left > 0; left--) {
            boolean isCode = textAt(in.readUnsignedShort()).equals("Code");
            byte[] held = in.readNBytes(in.readInt());
            if (isCode && bodies != null) bodies.put(member, body(new DataInputStream(new ByteArrayInputStream(held))));
        }
    }

    private Body body(DataInputStream code) throws IOException {
        code.readInt();
        byte[] bytes = code.readNBytes(code.readInt());
        Body body = new Body();
        body.catching = code.readUnsignedShort() > 0;
        for (int at = 0; at < bytes.length; at += lengthAt(bytes, at)) {
            int instruction = bytes[at] & 255;
            if (instruction == THROW) body.throwing = true;
            if (instruction >= FIRST_CALL && instruction < MADE_CALL) body.calls.add(calledAt((bytes[at + 1] & 255) << 8 | bytes[at + 2] & 255));
            if (instruction == MADE_CALL) body.calls.add("a call that is made while it runs");
        }
        return body;
    }

    private String calledAt(int at) {
        int[] called = (int[]) pool[at];
        int[] told = (int[]) pool[called[1]];
        return textAt(((int[]) pool[called[0]])[0]) + "." + textAt(told[0]) + textAt(told[1]);
    }

    private static int lengthAt(byte[] bytes, int at) {
        int instruction = bytes[at] & 255;
        if (instruction == WIDE) return (bytes[at + 1] & 255) == INCREASE ? 6 : 4;
        int behind = at + 4 - at % 4;
        if (instruction == TABLE_SWITCH) return behind + 12 + 4 * (numberAt(bytes, behind + 8) - numberAt(bytes, behind + 4) + 1) - at;
        if (instruction == LOOKUP_SWITCH) return behind + 8 + 8 * numberAt(bytes, behind + 4) - at;
        return LENGTHS.charAt(instruction) - '0';
    }

    private static int numberAt(byte[] bytes, int at) {
        return (bytes[at] & 255) << 24 | (bytes[at + 1] & 255) << 16 | (bytes[at + 2] & 255) << 8 | bytes[at + 3] & 255;
    }
}
