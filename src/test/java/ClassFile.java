import java.io.DataInputStream;
import java.io.IOException;
import java.io.InputStream;
import java.util.ArrayList;
import java.util.List;

/** What javac made of one class, as far as LanguageTests asks for it: its methods and the instructions of each. */
final class ClassFile {
    static final class Method {
        String name;
        String descriptor;
        int handlers;
        int firstLine = Integer.MAX_VALUE;
        int lastLine;
        /** Each as "class.name descriptor". */
        final List<String> calls = new ArrayList<>();
        final List<String> made = new ArrayList<>();
        final List<String> casts = new ArrayList<>();
        boolean isThrowing;
        boolean isDynamic;
    }

    private static final int WIDE = 0xc4;
    private static final int TABLESWITCH = 0xaa;
    private static final int LOOKUPSWITCH = 0xab;
    private final DataInputStream in;
    private Object[] pool;
    private int[][] pairs;
    final String name;
    final List<Method> methods = new ArrayList<>();

    ClassFile(String name) throws IOException {
        this.name = name;
        try (InputStream stream = Rollover.class.getResourceAsStream(name + ".class")) {
            in = new DataInputStream(stream);
            in.skipBytes(8);
            readPool();
            in.skipBytes(6);
            in.skipBytes(2 * in.readUnsignedShort());
            for (int fields = in.readUnsignedShort(); fields > 0; fields--) {
                in.skipBytes(6);
                for (int k = in.readUnsignedShort(); k > 0; k--) skipAttribute();
            }
            for (int many = in.readUnsignedShort(); many > 0; many--) methods.add(readMethod());
        }
    }

    private void readPool() throws IOException {
        int size = in.readUnsignedShort();
        pool = new Object[size];
        pairs = new int[size][];
        for (int k = 1; k < size; k++) {
            int tag = in.readUnsignedByte();
            switch (tag) {
                case 1 -> pool[k] = in.readUTF();
                case 3, 4 -> in.readInt();
                case 5, 6 -> {
                    in.readLong();
                    k++;
                }
                case 7, 8, 16, 19, 20 -> pairs[k] = new int[] {in.readUnsignedShort(), 0};
                case 15 -> in.skipBytes(3);
                default -> pairs[k] = new int[] {in.readUnsignedShort(), in.readUnsignedShort()};
            }
        }
    }

    private String classAt(int index) {
        return (String) pool[pairs[index][0]];
    }

    private String memberAt(int index) {
        int[] nameAndType = pairs[pairs[index][1]];
        return classAt(pairs[index][0]) + "." + pool[nameAndType[0]] + " " + pool[nameAndType[1]];
    }

    private void skipAttribute() throws IOException {
        in.skipBytes(2);
        in.skipNBytes(in.readInt());
    }

    private Method readMethod() throws IOException {
        Method m = new Method();
        in.skipBytes(2);
        m.name = (String) pool[in.readUnsignedShort()];
        m.descriptor = (String) pool[in.readUnsignedShort()];
        for (int k = in.readUnsignedShort(); k > 0; k--) {
            if ("Code".equals(pool[in.readUnsignedShort()])) readCode(m);
            else in.skipNBytes(in.readInt());
        }
        return m;
    }

    private void readCode(Method m) throws IOException {
        in.skipBytes(8);
        byte[] code = in.readNBytes(in.readInt());
        for (int at = 0; at < code.length; at += lengthAt(code, at)) note(m, code, at);
        m.handlers = in.readUnsignedShort();
        in.skipBytes(8 * m.handlers);
        for (int k = in.readUnsignedShort(); k > 0; k--) {
            if ("LineNumberTable".equals(pool[in.readUnsignedShort()])) readLines(m);
            else in.skipNBytes(in.readInt());
        }
    }

    private void readLines(Method m) throws IOException {
        in.readInt();
        for (int k = in.readUnsignedShort(); k > 0; k--) {
            in.readUnsignedShort();
            int line = in.readUnsignedShort();
            m.firstLine = Math.min(m.firstLine, line);
            m.lastLine = Math.max(m.lastLine, line);
        }
    }

    private void note(Method m, byte[] code, int at) {
        int what = code[at] & 255;
        int index = at + 2 < code.length ? (code[at + 1] & 255) << 8 | code[at + 2] & 255 : 0;
        switch (what) {
            case 0xb6, 0xb7, 0xb8, 0xb9 -> m.calls.add(memberAt(index));
            case 0xba -> m.isDynamic = true;
            case 0xbb, 0xbd, 0xc5 -> m.made.add(classAt(index));
            case 0xbc -> m.made.add("numbers");
            case 0xbf -> m.isThrowing = true;
            case 0xc0, 0xc1 -> m.casts.add(classAt(index));
            default -> { }
        }
    }

    private static int lengthAt(byte[] code, int at) {
        int what = code[at] & 255;
        if (what == WIDE) return (code[at + 1] & 255) == 0x84 ? 6 : 4;
        if (what == TABLESWITCH || what == LOOKUPSWITCH) {
            int start = (at + 4) / 4 * 4;
            int head = what == TABLESWITCH ? 12 + 4 * (wordAt(code, start + 8) - wordAt(code, start + 4) + 1)
                    : 8 + 8 * wordAt(code, start + 4);
            return start + head - at;
        }
        if (what == 0xb9 || what == 0xba || what == 0xc8 || what == 0xc9) return 5;
        if (what == 0xc5) return 4;
        boolean isOfThree = what == 0x11 || what == 0x13 || what == 0x14 || what == 0x84 || (what >= 0x99 && what <= 0xa8)
                || (what >= 0xb2 && what <= 0xb8) || what == 0xbb || what == 0xbd || what == 0xc0 || what == 0xc1
                || what == 0xc6 || what == 0xc7;
        if (isOfThree) return 3;
        boolean isOfTwo = what == 0x10 || what == 0x12 || (what >= 0x15 && what <= 0x19) || (what >= 0x36 && what <= 0x3a)
                || what == 0xa9 || what == 0xbc;
        return isOfTwo ? 2 : 1;
    }

    private static int wordAt(byte[] code, int at) {
        return (code[at] & 255) << 24 | (code[at + 1] & 255) << 16 | (code[at + 2] & 255) << 8 | code[at + 3] & 255;
    }
}
