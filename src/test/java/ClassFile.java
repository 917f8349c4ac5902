import java.io.DataInputStream;
import java.io.IOException;
import java.io.InputStream;
import java.util.ArrayList;
import java.util.List;

/** Reads a compiled class of OperaGlasses: its methods, and what their instructions do. */
final class ClassFile {
    static final int ATHROW = 191, CHECKCAST = 192, INSTANCEOF = 193, MONITORENTER = 194, INVOKEDYNAMIC = 186;
    private static final int BIPUSH = 16, SIPUSH = 17, ICONST_M1 = 2, ICONST_5 = 8;
    private static final int TABLESWITCH = 170, LOOKUPSWITCH = 171, WIDE = 196, IINC = 132;
    private static final int FIRST_INVOKE = 182, LAST_INVOKE = 185;
    private static final int FIRST_ARRAY_LOAD = 46, LAST_ARRAY_LOAD = 53, FIRST_ARRAY_STORE = 79, LAST_ARRAY_STORE = 86;

    /** One method: what it calls, as class.name, and what its instructions are. */
    static final class Code {
        final String name;
        final List<String> calls = new ArrayList<>();
        final List<Integer> operations = new ArrayList<>();
        boolean catches;
        boolean usesArrays;
        boolean makes;
        /** Whether each divisor is a constant that is not 0. */
        boolean dividesSafely = true;

        Code(String name) {
            this.name = name;
        }
    }

    final String name;
    final List<Code> methods = new ArrayList<>();
    private Object[] pool;

    ClassFile(Class<?> read) throws IOException {
        name = read.getName();
        try (InputStream file = OperaGlasses.class.getResourceAsStream(name + ".class");
             DataInputStream in = new DataInputStream(file)) {
            in.skipNBytes(8);
            readPool(in);
            in.skipNBytes(6);
            in.skipNBytes(2 * in.readUnsignedShort());
            readMembers(in, false);
            readMembers(in, true);
        }
    }

    private void readPool(DataInputStream in) throws IOException {
        pool = new Object[in.readUnsignedShort()];
        for (int i = 1; i < pool.length; i++) {
            int tag = in.readUnsignedByte();
            switch (tag) {
                case 1 -> pool[i] = in.readUTF();
                case 3, 4 -> in.skipNBytes(4);
                case 5, 6 -> {
                    in.skipNBytes(8);
                    i++;
                }
                case 7, 8, 16, 19, 20 -> pool[i] = new int[] {in.readUnsignedShort()};
                case 15 -> in.skipNBytes(3);
                default -> pool[i] = new int[] {in.readUnsignedShort(), in.readUnsignedShort()};
            }
        }
    }

    private void readMembers(DataInputStream in, boolean areMethods) throws IOException {
        for (int left = in.readUnsignedShort(); left > 0; left--) {
            in.skipNBytes(2);
            Code code = new Code((String) pool[in.readUnsignedShort()]);
            in.skipNBytes(2);
            for (int attributes = in.readUnsignedShort(); attributes > 0; attributes--) {
                String kind = (String) pool[in.readUnsignedShort()];
                byte[] content = new byte[in.readInt()];
                in.readFully(content);
                if (kind.equals("Code")) {
                    readCode(content, code);
                }
            }
            if (areMethods) {
                methods.add(code);
            }
        }
    }

    private void readCode(byte[] content, Code code) {
        int length = fourBytes(content, 4);
        code.catches = twoBytes(content, 8 + length) != 0;
        int before = 0;
        for (int at = 8; at < 8 + length; ) {
            int operation = content[at] & 255;
            code.operations.add(operation);
            code.usesArrays |= operation >= FIRST_ARRAY_LOAD && operation <= LAST_ARRAY_LOAD
                || operation >= FIRST_ARRAY_STORE && operation <= LAST_ARRAY_STORE;
            code.makes |= operation >= 187 && operation <= 189 || operation == 197;
            code.dividesSafely &= !divides(operation) || pushesMoreThan0(content, before);
            if (operation >= FIRST_INVOKE && operation <= LAST_INVOKE) {
                code.calls.add(methodAt(twoBytes(content, at + 1)));
            }
            before = at;
            at += lengthOf(content, at);
        }
    }

    /** A method of the pool as class.name(types). */
    private String methodAt(int index) {
        int[] method = (int[]) pool[index];
        int[] nameAndType = (int[]) pool[method[1]];
        String owner = (String) pool[((int[]) pool[method[0]])[0]];
        return owner + "." + pool[nameAndType[0]] + (owner.startsWith("java/") ? pool[nameAndType[1]] : "");
    }

    private static boolean divides(int operation) {
        return operation == 108 || operation == 109 || operation == 112 || operation == 113;
    }

    private static boolean pushesMoreThan0(byte[] content, int at) {
        int operation = content[at] & 255;
        return operation > ICONST_M1 + 1 && operation <= ICONST_5 || operation == BIPUSH && content[at + 1] > 0
            || operation == SIPUSH && (short) twoBytes(content, at + 1) > 0;
    }

    private static int lengthOf(byte[] content, int at) {
        int operation = content[at] & 255;
        int aligned = at + 4 - (at - 8) % 4;
        if (operation == TABLESWITCH) {
            int cases = fourBytes(content, aligned + 8) - fourBytes(content, aligned + 4) + 1;
            return aligned + 12 + 4 * cases - at;
        }
        if (operation == LOOKUPSWITCH) {
            return aligned + 8 + 8 * fourBytes(content, aligned + 4) - at;
        }
        if (operation == WIDE) {
            return (content[at + 1] & 255) == IINC ? 6 : 4;
        }
        return plainLength(operation);
    }

    private static int plainLength(int operation) {
        if (operation == BIPUSH || operation == 18 || operation >= 21 && operation <= 25
            || operation >= 54 && operation <= 58 || operation == 169 || operation == 188) {
            return 2;
        }
        if (operation == SIPUSH || operation == 19 || operation == 20 || operation == IINC
            || operation >= 153 && operation <= 168 || operation >= 178 && operation <= 184 || operation == 187
            || operation == 189 || operation == CHECKCAST || operation == INSTANCEOF || operation == 198 || operation == 199) {
            return 3;
        }
        if (operation == 185 || operation == INVOKEDYNAMIC || operation == 200 || operation == 201) {
            return 5;
        }
        return operation == 197 ? 4 : 1;
    }

    private static int twoBytes(byte[] content, int at) {
        return (content[at] & 255) << 8 | content[at + 1] & 255;
    }

    private static int fourBytes(byte[] content, int at) {
        return twoBytes(content, at) << 16 | twoBytes(content, at + 2);
    }
}
