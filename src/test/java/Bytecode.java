import java.io.DataInputStream;
import java.io.IOException;
import java.io.InputStream;
import java.nio.ByteBuffer;
import java.util.ArrayList;
import java.util.List;
import java.util.Set;
import java.util.TreeSet;

/** A method as javac wrote it: which instructions it has and whom it calls. */
final class Bytecode {
    static final int DIVIDES_INT = 0x6c;
    static final int DIVIDES_LONG = 0x6d;
    static final int LEFT_OF_INT = 0x70;
    static final int LEFT_OF_LONG = 0x71;
    static final int INVOKES_INTERFACE = 0xb9;
    static final int INVOKES_DYNAMIC = 0xba;
    static final int MAKES_OBJECT = 0xbb;
    static final int MAKES_NUMBERS = 0xbc;
    static final int MAKES_REFERENCES = 0xbd;
    static final int THROWS = 0xbf;
    static final int CASTS = 0xc0;
    static final int ASKS_KIND = 0xc1;
    static final int LOCKS = 0xc2;
    static final int UNLOCKS = 0xc3;
    static final int MAKES_ROWS = 0xc5;

    private static final int TABLE_SWITCH = 0xaa;
    private static final int LOOKUP_SWITCH = 0xab;
    private static final int FIRST_INVOKE = 0xb6;
    private static final int WIDE = 0xc4;
    private static final int INCREASES = 0x84;

    final String name;
    final Set<String> calls = new TreeSet<>();
    final Set<Integer> instructions = new TreeSet<>();
    int handlers = 0;
    boolean dividesByConstantsAlone = true;

    private Bytecode(String name) {
        this.name = name;
    }

    /** Reads a compiled class's methods. */
    private static final class Reading {
        private final DataInputStream in;
        private Object[] pool;

        Reading(InputStream stream) {
            in = new DataInputStream(stream);
        }

        List<Bytecode> all(String type) throws IOException {
            in.readLong();
            readPool();
            in.skipNBytes(6);
            in.skipNBytes(2L * in.readUnsignedShort());
            members(type);
            return members(type);
        }

        private void readPool() throws IOException {
            pool = new Object[in.readUnsignedShort()];
            for (int i = 1; i < pool.length; i++) {
                int tag = in.readUnsignedByte();
                switch (tag) {
                    case 1:
                        pool[i] = in.readUTF();
                        break;
                    case 7: case 8: case 16: case 19: case 20:
                        pool[i] = new int[] {in.readUnsignedShort()};
                        break;
                    case 9: case 10: case 11: case 12: case 17: case 18:
                        pool[i] = new int[] {in.readUnsignedShort(), in.readUnsignedShort()};
                        break;
                    case 3: case 4:
                        in.skipNBytes(4);
                        break;
                    case 5: case 6:
                        in.skipNBytes(8);
                        // These have two places.
                        i++;
                        break;
                    case 15:
                        in.skipNBytes(3);
                        break;
                    default:
                        throw new IOException("a constant of kind " + tag);
                }
            }
        }

        private int part(int i, int which) {
            return ((int[]) pool[i])[which];
        }

        private String text(int i) {
            return (String) pool[i];
        }

        /** Fields or methods; fields have no code. */
        private List<Bytecode> members(String type) throws IOException {
            List<Bytecode> found = new ArrayList<>();
            for (int left = in.readUnsignedShort(); left > 0; left--) {
                in.skipNBytes(2);
                Bytecode method = new Bytecode(type + "." + text(in.readUnsignedShort()));
                in.skipNBytes(2);
                for (int attributes = in.readUnsignedShort(); attributes > 0; attributes--) {
                    String attribute = text(in.readUnsignedShort());
                    byte[] content = in.readNBytes(in.readInt());
                    if (attribute.equals("Code")) {
                        found.add(method);
                        scan(method, ByteBuffer.wrap(content));
                    }
                }
            }
            return found;
        }

        private void scan(Bytecode method, ByteBuffer code) {
            int length = code.getInt(4);
            int before = 0;
            for (int at = 0; at < length; at += size(code, 8 + at, at)) {
                int op = code.get(8 + at) & 255;
                method.instructions.add(op);
                if (op >= FIRST_INVOKE && op <= INVOKES_INTERFACE) {
                    int target = code.getShort(9 + at) & 65535;
                    method.calls.add(text(part(part(target, 0), 0)) + "." + text(part(part(target, 1), 0)));
                }
                boolean divides = op == DIVIDES_INT || op == DIVIDES_LONG || op == LEFT_OF_INT || op == LEFT_OF_LONG;
                method.dividesByConstantsAlone &= !divides || isConstant(before);
                before = op;
            }
            method.handlers = code.getShort(8 + length);
        }

        /** Puts a number that stands in the code and is not 0, or one of the constants, none of which is 0. */
        private static boolean isConstant(int op) {
            return op >= 0x04 && op <= 0x08 || op == 0x0a || op >= 0x10 && op <= 0x14;
        }

        private static int size(ByteBuffer code, int place, int at) {
            int op = code.get(place) & 255;
            int padded = place + 4 - at % 4;
            switch (op) {
                case TABLE_SWITCH:
                    return padded - place + 12 + 4 * (code.getInt(padded + 8) - code.getInt(padded + 4) + 1);
                case LOOKUP_SWITCH:
                    return padded - place + 8 + 8 * code.getInt(padded + 4);
                case WIDE:
                    return (code.get(place + 1) & 255) == INCREASES ? 6 : 4;
                case 0xb9: case 0xba: case 0xc8: case 0xc9:
                    return 5;
                case 0xc5:
                    return 4;
                case 0x11: case 0x13: case 0x14: case INCREASES: case 0xbb: case 0xbd: case 0xc0: case 0xc1: case 0xc6: case 0xc7:
                    return 3;
                case 0x10: case 0x12: case 0xa9: case 0xbc:
                    return 2;
                default:
                    return op >= 0x99 && op <= 0xa8 || op >= 0xb2 && op <= 0xb8 ? 3
                        : op >= 0x15 && op <= 0x19 || op >= 0x36 && op <= 0x3a ? 2 : 1;
            }
        }
    }

    /** The methods of a class, constructors as "<init>"; a name that several bear stands several times. */
    static List<Bytecode> of(Class<?> type) throws IOException {
        try (InputStream stream = type.getResourceAsStream("/" + type.getName() + ".class")) {
            return new Reading(stream).all(type.getName());
        }
    }
}
