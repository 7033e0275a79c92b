import java.io.DataInputStream;
import java.io.IOException;
import java.io.InputStream;
import java.util.ArrayList;
import java.util.List;

/** As much of a compiled class as the rules of LANGUAGE.md ask about: its methods and what their code does. */
final class ClassFile {
    /** A method: its code's operations, what it calls, how many lines it has. */
    static final class Method {
        String name;
        final List<Integer> operations = new ArrayList<>();
        final List<String> calls = new ArrayList<>();
        int catches = 0;
        int firstLine = Integer.MAX_VALUE;
        int lastLine = 0;

        int lines() {
            return Math.max(0, lastLine - firstLine + 1);
        }
    }

    /** How many bytes follow an operation, from 0 to 201; of the two switches and wide it is told elsewhere. */
    private static final String OPERANDS = "0".repeat(16) + "12122" + "11111" + "0".repeat(28) + "11111"
        + "0".repeat(73) + "2" + "0".repeat(20) + "2".repeat(14) + "221" + "00" + "0".repeat(6) + "2222" + "22244"
        + "212" + "00" + "22" + "00" + "0" + "3" + "22" + "44";

    final String name;
    final List<Method> methods = new ArrayList<>();
    private final Object[] pool;

    ClassFile(String binaryName) throws IOException {
        try (InputStream file = ClassFile.class.getResourceAsStream("/" + binaryName + ".class");
            DataInputStream in = new DataInputStream(file)) {
            in.readInt();
            in.readInt();
            pool = new Object[in.readUnsignedShort()];
            readPool(in);
            in.readUnsignedShort();
            name = className(in.readUnsignedShort());
            in.readUnsignedShort();
            skipShorts(in, in.readUnsignedShort());
            int fields = in.readUnsignedShort();
            for (int i = 0; i < fields; i++) {
                readMember(in, null);
            }
            int count = in.readUnsignedShort();
            for (int i = 0; i < count; i++) {
                Method m = new Method();
                readMember(in, m);
                methods.add(m);
            }
        }
    }

    private static void skipShorts(DataInputStream in, int n) throws IOException {
        for (int i = 0; i < n; i++) {
            in.readUnsignedShort();
        }
    }

    private void readPool(DataInputStream in) throws IOException {
        for (int i = 1; i < pool.length; i++) {
            int tag = in.readUnsignedByte();
            switch (tag) {
                case 1:
                    pool[i] = in.readUTF();
                    break;
                case 5:
                case 6:
                    in.readLong();
                    i++;
                    break;
                case 7:
                case 8:
                case 16:
                case 19:
                case 20:
                    pool[i] = new int[] {in.readUnsignedShort()};
                    break;
                case 15:
                    in.readUnsignedByte();
                    in.readUnsignedShort();
                    break;
                default:
                    pool[i] = new int[] {in.readUnsignedShort(), in.readUnsignedShort()};
            }
        }
    }

    private String text(int i) {
        return (String) pool[i];
    }

    private int part(int i, int which) {
        return ((int[]) pool[i])[which];
    }

    private String className(int i) {
        return text(part(i, 0));
    }

    private void readMember(DataInputStream in, Method m) throws IOException {
        in.readUnsignedShort();
        String member = text(in.readUnsignedShort());
        in.readUnsignedShort();
        int attributes = in.readUnsignedShort();
        for (int i = 0; i < attributes; i++) {
            String attribute = text(in.readUnsignedShort());
            int length = in.readInt();
            if (m != null && attribute.equals("Code")) {
                readCode(in, m);
            } else {
                in.readFully(new byte[length]);
            }
        }
        if (m != null) {
            m.name = name + "." + member;
        }
    }

    private void readCode(DataInputStream in, Method m) throws IOException {
        in.readInt();
        byte[] code = new byte[in.readInt()];
        in.readFully(code);
        m.catches = in.readUnsignedShort();
        skipShorts(in, 4 * m.catches);
        int attributes = in.readUnsignedShort();
        for (int i = 0; i < attributes; i++) {
            String attribute = text(in.readUnsignedShort());
            int length = in.readInt();
            if (attribute.equals("LineNumberTable")) {
                int lines = in.readUnsignedShort();
                for (int k = 0; k < lines; k++) {
                    in.readUnsignedShort();
                    int line = in.readUnsignedShort();
                    m.firstLine = Math.min(m.firstLine, line);
                    m.lastLine = Math.max(m.lastLine, line);
                }
            } else {
                in.readFully(new byte[length]);
            }
        }
        walk(code, m);
    }

    private void walk(byte[] code, Method m) {
        int at = 0;
        while (at < code.length) {
            int op = code[at] & 255;
            m.operations.add(op);
            if (op >= 182 && op <= 186) {
                m.calls.add(op == 186 ? "dynamic" : called(number(code, at + 1, 2)));
            }
            if (op == 170 || op == 171) {
                int table = (at + 4) / 4 * 4;
                int pairs = op == 171 ? number(code, table + 4, 4) * 2
                    : number(code, table + 8, 4) - number(code, table + 4, 4) + 2;
                at = table + 8 + 4 * pairs;
            } else if (op == 196) {
                at += (code[at + 1] & 255) == 132 ? 6 : 4;
            } else {
                at += 1 + OPERANDS.charAt(op) - '0';
            }
        }
    }

    private String called(int i) {
        return className(part(i, 0)) + "." + text(part(part(i, 1), 0));
    }

    private static int number(byte[] code, int at, int bytes) {
        int v = 0;
        for (int i = 0; i < bytes; i++) {
            v = v << 8 | code[at + i] & 255;
        }
        return v;
    }
}
