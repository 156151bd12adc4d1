/**
 * Promise 7: the work of the instructions with operands. What is due is told by arithmetic with signs and
 * without, not by looking at the highest bits.
 */
public final class Promise07WorkTest {
    private static final int[] EDGES = {
        0, 1, 2, 3, 0x40, 0x55, 0x7E, 0x7F, 0x80, 0x81, 0xAA, 0xFE, 0xFF, 0x100, 0x101, 0x3FFF, 0x4000, 0x4001,
        0x5555, 0x7F80, 0x7FFE, 0x7FFF, 0x8000, 0x8001, 0x807F, 0x8080, 0xAAAA, 0xC000, 0xFF00, 0xFF7F, 0xFF80,
        0xFFFE, 0xFFFF,
    };
    private static final String[] TWO = {"", "MOV", "CMP", "BIT", "BIC", "BIS", "ADD"};
    private static final String[] ONE = {
        "CLR", "COM", "INC", "DEC", "NEG", "ADC", "SBC", "TST", "ROR", "ROL", "ASR", "ASL",
    };

    private static int result;
    private static boolean overflow;
    private static boolean carry;

    public static void main(String[] args) {
        for (int flags = 0; flags < 16; flags += 5) {
            allOfWords(flags);
            allOfBytes(flags);
        }
        // The flags' other states, each alone.
        for (int flags = 1; flags < 16; flags += 3) {
            allOfOne(flags);
        }
        swaps();
        Check.end();
    }

    private static void allOfWords(int flags) {
        for (int d : EDGES) {
            for (int s : EDGES) {
                for (int top = 1; top <= 6; top++) {
                    two(TWO[top], top << 12, 16, s, d, flags);
                }
                two("SUB", 0160000, 16, s, d, flags);
            }
        }
        allOfOne(flags);
    }

    private static void allOfBytes(int flags) {
        for (int d = 0; d < 256; d++) {
            for (int s = 0; s < 256; s += d % 3 + 1) {
                for (int top = 1; top <= 5; top++) {
                    two(TWO[top], 0100000 | top << 12, 8, s, d, flags);
                }
            }
        }
    }

    private static void allOfOne(int flags) {
        for (int i = 0; i < ONE.length; i++) {
            for (int d : EDGES) {
                one(ONE[i], (050 + i) << 6, 16, d, flags);
            }
            for (int d = 0; d < 256; d++) {
                one(ONE[i], 0100000 | (050 + i) << 6, 8, d, flags);
            }
        }
    }

    private static int signed(int value, int bits) {
        return value >= 1 << bits - 1 ? value - (1 << bits) : value;
    }

    private static boolean isOutside(int value, int bits) {
        return value < -(1 << bits - 1) || value >= 1 << bits - 1;
    }

    /** The operation on R1 and R2, of bytes under a high byte that has to stay. */
    private static void two(String name, int code, int bits, int s, int d, int flags) {
        MicroMill mill = Mills.with(code | 1 << 6 | 2);
        int above = bits == 8 ? 0x4200 : 0;
        mill.set(1, 0x9900 * (bits == 8 ? 1 : 0) | s);
        mill.set(2, above | d);
        Mills.giveFlags(mill, flags);
        boolean keeps = name.equals("CMP") || name.equals("BIT");
        String text = name + " of " + bits + " bits, " + s + ", " + d + ", flags " + flags;
        Check.due(text, mill.step(), keeps ? 5 : 6);
        dueOfTwo(name, bits, s, d, (flags & 1) != 0);
        int put = name.equals("MOV") && bits == 8 ? signed(s, 8) & 0xFFFF : above | result;
        Check.due(text + ": R2", mill.register(2), keeps ? above | d : put);
        Check.due(text + ": flags", mill.flags(), flagsDue(bits));
    }

    private static int flagsDue(int bits) {
        return (signed(result, bits) < 0 ? 8 : 0) | (result == 0 ? 4 : 0) | (overflow ? 2 : 0) | (carry ? 1 : 0);
    }

    private static void dueOfTwo(String name, int bits, int s, int d, boolean c) {
        overflow = false;
        carry = c;
        switch (name) {
            case "MOV" -> result = s;
            case "BIT" -> result = s & d;
            case "BIC" -> result = (s | d) - s;
            case "BIS" -> result = s + d - (s & d);
            case "CMP" -> dueOfSum(s - d, signed(s, bits) - signed(d, bits), bits);
            case "ADD" -> dueOfSum(d + s, signed(d, bits) + signed(s, bits), bits);
            case "SUB" -> dueOfSum(d - s, signed(d, bits) - signed(s, bits), bits);
            default -> throw new IllegalStateException(name);
        }
    }

    private static void dueOfSum(int without, int with, int bits) {
        result = Math.floorMod(without, 1 << bits);
        overflow = isOutside(with, bits);
        carry = without < 0 || without >= 1 << bits;
    }

    private static void one(String name, int code, int bits, int d, int flags) {
        MicroMill mill = Mills.with(code | 3);
        int above = bits == 8 ? 0x4200 : 0;
        mill.set(3, above | d);
        Mills.giveFlags(mill, flags);
        String text = name + " of " + bits + " bits, " + d + ", flags " + flags;
        Check.due(text, mill.step(), name.equals("TST") ? 4 : 5);
        dueOfOne(name, bits, d, flags & 1);
        Check.due(text + ": R3", mill.register(3), above | result);
        Check.due(text + ": flags", mill.flags(), flagsDue(bits));
    }

    private static void dueOfOne(String name, int bits, int d, int c) {
        int most = (1 << bits) - 1;
        int half = 1 << bits - 1;
        boolean carryBefore = c == 1;
        overflow = false;
        carry = false;
        switch (name) {
            case "CLR" -> result = 0;
            case "COM" -> {
                result = most - d;
                carry = true;
            }
            case "INC" -> {
                dueOfSum(d + 1, signed(d, bits) + 1, bits);
                carry = carryBefore;
            }
            case "DEC" -> {
                dueOfSum(d - 1, signed(d, bits) - 1, bits);
                carry = carryBefore;
            }
            case "NEG" -> dueOfSum(-d, -signed(d, bits), bits);
            case "ADC" -> dueOfSum(d + c, signed(d, bits) + c, bits);
            case "SBC" -> dueOfSum(d - c, signed(d, bits) - c, bits);
            case "TST" -> result = d;
            case "ROR" -> dueOfShift(d / 2 + c * half, d % 2 == 1, bits);
            case "ROL" -> dueOfShift((d * 2 + c) % (most + 1), d >= half, bits);
            case "ASR" -> dueOfShift(Math.floorMod(Math.floorDiv(signed(d, bits), 2), most + 1), d % 2 == 1, bits);
            case "ASL" -> dueOfShift(d * 2 % (most + 1), d >= half, bits);
            default -> throw new IllegalStateException(name);
        }
    }

    private static void dueOfShift(int value, boolean out, int bits) {
        result = value;
        carry = out;
        overflow = signed(value, bits) < 0 != out;
    }

    private static void swaps() {
        int[] before = {0x1234, 0x8000, 0x0080, 0x00FF, 0xFF00, 0x0000, 0x7F01, 0xFFFF};
        int[] after = {0x3412, 0x0080, 0x8000, 0xFF00, 0x00FF, 0x0000, 0x017F, 0xFFFF};
        int[] flags = {0, 8, 4, 4, 8, 4, 0, 8};
        for (int i = 0; i < before.length; i++) {
            MicroMill mill = Mills.with(0000304);
            mill.set(4, before[i]);
            Mills.giveFlags(mill, 15);
            Check.due("SWAB of " + before[i], mill.step(), 5);
            Check.due("SWAB of " + before[i] + ": R4", mill.register(4), after[i]);
            Check.due("SWAB of " + before[i] + ": flags", mill.flags(), flags[i]);
        }
        MicroMill mill = Mills.with(0000321);
        mill.set(1, 100);
        mill.poke(100, 0x1234);
        Check.due("SWAB (R1)+", mill.step(), 6);
        Check.due("peek(100)", mill.peek(100), 0x3412);
        Check.due("R1", mill.register(1), 102);
    }
}
