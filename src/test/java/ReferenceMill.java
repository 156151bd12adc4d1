/**
 * The document told once more, in another way than MicroMill does it: instructions are known by their six
 * octal digits, memory is bytes, and a stop is an exception.
 */
final class ReferenceMill {
    private static final class Stop extends RuntimeException {
        private static final long serialVersionUID = 1;
        private final int reason;

        private Stop(int reason) {
            super(null, null, false, false);
            this.reason = reason;
        }
    }

    final int[] memory = new int[4096];
    final int[] r = new int[8];
    int n;
    int z;
    int v;
    int c;
    int stopped;
    long cycles;
    private int took;
    private int operandAt;

    int wordAt(int address) {
        return memory[address] + 256 * memory[address + 1];
    }

    void putWord(int address, int value) {
        memory[address] = value % 256;
        memory[address + 1] = value / 256;
    }

    int step() {
        if (stopped != 0) {
            return -1;
        }
        took = 2;
        try {
            String digits = String.format("%06o", nextWord());
            perform(digits);
        } catch (Stop stop) {
            stopped = stop.reason;
            return -1;
        }
        cycles += took;
        return took;
    }

    private int nextWord() {
        int at = r[7];
        r[7] = cut(r[7] + 2);
        return load(at, 16);
    }

    private static int cut(int value) {
        return Math.floorMod(value, 65536);
    }

    private int load(int address, int bits) {
        if (bits == 16 && address % 2 == 1) {
            throw new Stop(3);
        }
        if (address > 4095) {
            throw new Stop(4);
        }
        return bits == 16 ? wordAt(address) : memory[address];
    }

    private void perform(String digits) {
        int value = Integer.parseInt(digits, 8);
        if (digits.matches("0[1-6]....|1[1-6]....")) {
            two(digits);
        } else if (digits.matches("[01]05[0-7]..|[01]06[0-3]..|0003..")) {
            one(digits);
        } else if (digits.matches("077...")) {
            int register = digits.charAt(3) - '0';
            r[register] = cut(r[register] - 1);
            took += 2;
            if (r[register] != 0) {
                took++;
                r[7] = cut(r[7] - 2 * (value % 64));
            }
        } else if (digits.matches("0001..|004...")) {
            jump(digits);
        } else if (digits.matches("00020.")) {
            int register = digits.charAt(5) - '0';
            r[7] = r[register];
            int at = r[6];
            r[6] = cut(at + 2);
            r[register] = load(at, 16);
            took += 3;
        } else if (digits.matches("0002[4-7].")) {
            int to = value / 16 % 2;
            n = value / 8 % 2 == 1 ? to : n;
            z = value / 4 % 2 == 1 ? to : z;
            v = value / 2 % 2 == 1 ? to : v;
            c = value % 2 == 1 ? to : c;
            took++;
        } else if (digits.equals("000000")) {
            throw new Stop(1);
        } else {
            branch(value);
        }
    }

    private void branch(int value) {
        boolean so = switch (value / 256) {
            case 0x01 -> true;
            case 0x02 -> z == 0;
            case 0x03 -> z == 1;
            case 0x04 -> n + v != 1;
            case 0x05 -> n + v == 1;
            case 0x06 -> z == 0 && n + v != 1;
            case 0x07 -> z == 1 || n + v == 1;
            case 0x80 -> n == 0;
            case 0x81 -> n == 1;
            case 0x82 -> c + z == 0;
            case 0x83 -> c + z > 0;
            case 0x84 -> v == 0;
            case 0x85 -> v == 1;
            case 0x86 -> c == 0;
            case 0x87 -> c == 1;
            default -> throw new Stop(2);
        };
        took++;
        if (so) {
            int k = value % 256;
            took++;
            r[7] = cut(r[7] + 2 * (k > 127 ? k - 256 : k));
        }
    }

    private void jump(String digits) {
        if (digits.charAt(4) == '0') {
            throw new Stop(2);
        }
        took += "01122334".charAt(digits.charAt(4) - '0') - '0';
        int target = address(digits.charAt(4), digits.charAt(5) - '0', 2);
        if (digits.startsWith("004")) {
            int register = digits.charAt(3) - '0';
            r[6] = cut(r[6] - 2);
            load(r[6], 16);
            putWord(r[6], r[register]);
            r[register] = r[7];
            took += 5;
        }
        r[7] = target;
        took++;
    }

    private int operand(char mode, char which, int bits) {
        int register = which - '0';
        took += "12233445".charAt(mode - '0') - '0';
        if (mode == '0') {
            operandAt = -1;
            return r[register] % (1 << bits);
        }
        operandAt = address(mode, register, bits == 8 && register < 6 ? 1 : 2);
        return load(operandAt, bits);
    }

    private int address(char mode, int register, int step) {
        int size = (mode - '0') % 2 == 1 ? 2 : step;
        int at = r[register];
        switch (mode) {
            case '2', '3' -> r[register] = cut(r[register] + size);
            case '4', '5' -> {
                r[register] = cut(r[register] - size);
                at = r[register];
            }
            case '6', '7' -> {
                int index = nextWord();
                at = cut(index + r[register]);
            }
            default -> { }
        }
        return mode == '3' || mode == '5' || mode == '7' ? load(at, 16) : at;
    }

    private void two(String digits) {
        String top = digits.substring(0, 2);
        int bits = digits.charAt(0) == '1' && !top.equals("16") ? 8 : 16;
        int s = operand(digits.charAt(2), digits.charAt(3), bits);
        int d = operand(digits.charAt(4), digits.charAt(5), bits);
        took++;
        int over = 1 << bits;
        int result = switch (top) {
            case "01", "11" -> s;
            case "02", "12" -> s - d;
            case "03", "13" -> s & d;
            case "04", "14" -> d - (s & d);
            case "05", "15" -> s | d;
            case "06" -> d + s;
            default -> d - s;
        };
        boolean counts = "02 12 06 16".contains(top);
        int exact = switch (top) {
            case "02", "12" -> sign(s, bits) - sign(d, bits);
            case "06" -> sign(d, bits) + sign(s, bits);
            case "16" -> sign(d, bits) - sign(s, bits);
            default -> 0;
        };
        v = exact < -over / 2 || exact >= over / 2 ? 1 : 0;
        c = counts ? result < 0 || result >= over ? 1 : 0 : c;
        result = Math.floorMod(result, over);
        n = result >= over / 2 ? 1 : 0;
        z = result == 0 ? 1 : 0;
        if (!"02 12 03 13".contains(top)) {
            put(digits.charAt(5) - '0', top.equals("11"), bits, result);
        }
    }

    private static int sign(int value, int bits) {
        return value >= 1 << bits - 1 ? value - (1 << bits) : value;
    }

    private void put(int register, boolean extends_, int bits, int result) {
        took++;
        if (operandAt >= 0) {
            memory[operandAt] = result % 256;
            if (bits == 16) {
                memory[operandAt + 1] = result / 256;
            }
        } else if (bits == 16) {
            r[register] = result;
        } else {
            r[register] = extends_ ? cut(sign(result, 8)) : r[register] / 256 * 256 + result;
        }
    }

    private void one(String digits) {
        int bits = digits.charAt(0) == '1' ? 8 : 16;
        int over = 1 << bits;
        int half = over / 2;
        int d = operand(digits.charAt(4), digits.charAt(5), bits);
        int was = c;
        int result = switch (digits.substring(1, 4)) {
            case "003" -> d % 256 * 256 + d / 256;
            case "050" -> 0;
            case "051" -> over - 1 - d;
            case "052" -> d + 1;
            case "053" -> d - 1;
            case "054" -> -d;
            case "055" -> d + c;
            case "056" -> d - c;
            case "057" -> d;
            case "060" -> d / 2 + c * half;
            case "061" -> d * 2 + c;
            case "062" -> d / 2 + (d >= half ? half : 0);
            default -> d * 2;
        };
        result = Math.floorMod(result, over);
        n = result >= half ? 1 : 0;
        z = result == 0 ? 1 : 0;
        boolean alone = result == half;
        switch (digits.substring(1, 4)) {
            case "003" -> {
                n = result % 256 > 127 ? 1 : 0;
                z = result % 256 == 0 ? 1 : 0;
                vc(false, false);
            }
            case "050", "057" -> vc(false, false);
            case "051" -> vc(false, true);
            case "052" -> vc(alone, c == 1);
            case "053" -> vc(d == half, c == 1);
            case "054" -> vc(alone, result != 0);
            case "055" -> vc(was == 1 && alone, was == 1 && result == 0);
            case "056" -> vc(was == 1 && d == half, was == 1 && d == 0);
            case "060", "062" -> vc(n != d % 2, d % 2 == 1);
            default -> vc(n != (d >= half ? 1 : 0), d >= half);
        }
        took++;
        if (!digits.startsWith("057", 1)) {
            put(digits.charAt(5) - '0', false, bits, result);
        }
    }

    private void vc(boolean overflow, boolean carry) {
        v = overflow ? 1 : 0;
        c = carry ? 1 : 0;
    }

    int flags() {
        return 8 * n + 4 * z + 2 * v + c;
    }
}
