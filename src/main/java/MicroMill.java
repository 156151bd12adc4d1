/** A machine of sixteen bits that does its instructions one by one and counts their microcycles. */
public final class MicroMill {
    public static final int NONE = -1;

    private static final int MEMORY_BYTES = 4096;
    private static final int REGISTERS = 8;
    private static final int STACK = 6;
    private static final int NEXT = 7;
    private static final int WORD_BITS = 0xFFFF;
    private static final int BYTE_BITS = 0xFF;
    private static final int WORD_STEP = 2;
    private static final int RUN_LIMIT = 10_000;

    private static final int GOING = 0;
    private static final int HALTED = 1;
    private static final int NO_SUCH_INSTRUCTION = 2;
    private static final int ODD_WORD = 3;
    private static final int BEYOND_MEMORY = 4;

    // The numbers of instructions are octal, as in the document.
    private static final int BYTE_MARK = 0100000;
    private static final int MOV = 01;
    private static final int CMP = 02;
    private static final int BIT = 03;
    private static final int BIC = 04;
    private static final int BIS = 05;
    private static final int ADD = 06;
    private static final int SUB = 016;
    private static final int SWAB = 0003;
    private static final int CLR = 0050;
    private static final int COM = 0051;
    private static final int INC = 0052;
    private static final int DEC = 0053;
    private static final int NEG = 0054;
    private static final int ADC = 0055;
    private static final int SBC = 0056;
    private static final int TST = 0057;
    private static final int ROR = 0060;
    private static final int ROL = 0061;
    private static final int ASR = 0062;
    private static final int ASL = 0063;

    private static final int FETCH_CYCLES = 2;
    private static final int[] MODE_CYCLES = {1, 2, 2, 3, 3, 4, 4, 5};

    private final int[] words = new int[MEMORY_BYTES / 2];
    private final int[] registers = new int[REGISTERS];
    private final Work work = new Work();
    private int stopReason = GOING;
    private long allCycles = 0;
    private int spent = 0;
    /** Where the operand that was read last lies in memory; NONE if it is a register. */
    private int place = NONE;

    public MicroMill() {
    }

    public boolean poke(int address, int v) {
        if (!isWordAddress(address)) {
            return false;
        }
        words[address >> 1] = v & WORD_BITS;
        return true;
    }

    public int peek(int address) {
        return isWordAddress(address) ? words[address >> 1] : NONE;
    }

    public boolean set(int r, int v) {
        if (!isRegister(r)) {
            return false;
        }
        registers[r] = v & WORD_BITS;
        return true;
    }

    public int register(int r) {
        return isRegister(r) ? registers[r] : NONE;
    }

    public int flags() {
        return work.packed();
    }

    public int step() {
        return stopReason == GOING ? doInstruction() : NONE;
    }

    public int run(int n) {
        int most = Math.min(n, RUN_LIMIT);
        int done = 0;
        while (done < most && stopReason == GOING && doInstruction() != NONE) {
            done++;
        }
        return done;
    }

    public long cycles() {
        return allCycles;
    }

    public int stopped() {
        return stopReason;
    }

    public boolean go() {
        boolean had = stopReason != GOING;
        stopReason = GOING;
        return had;
    }

    private static boolean isWordAddress(int address) {
        return address >= 0 && address < MEMORY_BYTES && (address & 1) == 0;
    }

    private static boolean isRegister(int r) {
        return r >= 0 && r < REGISTERS;
    }

    private int doInstruction() {
        spent = FETCH_CYCLES;
        int instruction = readWord(stepUp(NEXT, WORD_STEP));
        if (instruction != NONE) {
            perform(instruction);
        }
        if (stopReason != GOING) {
            return NONE;
        }
        allCycles += spent;
        return spent;
    }

    private void perform(int instruction) {
        if (isOfTwoOperands(instruction)) {
            doTwoOperands(instruction);
        } else if (isOfOneOperand(instruction)) {
            doOneOperand(instruction);
        } else if (isBranch(instruction)) {
            doBranch(instruction);
        } else if (instruction >> 9 == 077) {
            doSubtractAndBranch(instruction);
        } else if (instruction >> 6 == 0001) {
            doJump(instruction);
        } else if (instruction >> 9 == 004) {
            doJumpToSubroutine(instruction);
        } else if (instruction >> 3 == 00020) {
            doReturn(instruction & 7);
        } else if (instruction >= 000240 && instruction <= 000277) {
            doFlags(instruction);
        } else {
            stopReason = instruction == 0 ? HALTED : NO_SUCH_INSTRUCTION;
        }
    }

    private static boolean isOfTwoOperands(int instruction) {
        int digit = (instruction >> 12) & 7;
        return digit >= MOV && digit <= ADD;
    }

    private static boolean isOfOneOperand(int instruction) {
        int digits = (instruction & ~BYTE_MARK) >> 6;
        return (digits >= CLR && digits <= ASL) || instruction >> 6 == SWAB;
    }

    private static boolean isBranch(int instruction) {
        int high = instruction >> 8;
        return (high >= 0x01 && high <= 0x07) || (high >= 0x80 && high <= 0x87);
    }

    private void doTwoOperands(int instruction) {
        // 16SSDD is SUB of words, though it bears the mark of bytes.
        boolean subtracts = instruction >> 12 == SUB;
        boolean bytes = !subtracts && (instruction & BYTE_MARK) != 0;
        int source = readOperand((instruction >> 6) & 077, bytes);
        if (source == NONE) {
            return;
        }
        int destination = readOperand(instruction & 077, bytes);
        if (destination == NONE) {
            return;
        }
        int operation = subtracts ? SUB : (instruction >> 12) & 7;
        work.takeWidth(bytes);
        int result = work.ofTwo(operation, source, destination);
        spent++;
        if (operation == MOV && bytes && place == NONE) {
            putSigned(instruction & 7, result);
        } else if (operation != CMP && operation != BIT) {
            putResult(instruction & 7, result, bytes);
        }
    }

    private void doOneOperand(int instruction) {
        boolean bytes = (instruction & BYTE_MARK) != 0;
        int operation = (instruction & ~BYTE_MARK) >> 6;
        int destination = readOperand(instruction & 077, bytes);
        if (destination == NONE) {
            return;
        }
        work.takeWidth(bytes);
        int result = operation >= ROR ? work.ofShift(operation, destination) : work.ofOne(operation, destination);
        spent++;
        if (operation != TST) {
            putResult(instruction & 7, result, bytes);
        }
    }

    private void doBranch(int instruction) {
        spent++;
        if (work.allows(instruction >> 8)) {
            spent++;
            registers[NEXT] = (registers[NEXT] + 2 * (byte) instruction) & WORD_BITS;
        }
    }

    private void doSubtractAndBranch(int instruction) {
        spent += 2;
        if (stepDown((instruction >> 6) & 7, 1) != 0) {
            spent++;
            stepDown(NEXT, 2 * (instruction & 077));
        }
    }

    private void doJump(int instruction) {
        int target = findTarget(instruction & 077);
        if (target != NONE) {
            registers[NEXT] = target;
            spent++;
        }
    }

    private void doJumpToSubroutine(int instruction) {
        int target = findTarget(instruction & 077);
        if (target == NONE) {
            return;
        }
        int top = stepDown(STACK, WORD_STEP);
        // Reading the word first stops the machine if there is no such word to write.
        if (readWord(top) == NONE) {
            return;
        }
        int link = (instruction >> 6) & 7;
        words[top >> 1] = registers[link];
        registers[link] = registers[NEXT];
        registers[NEXT] = target;
        spent += 6;
    }

    private void doReturn(int link) {
        registers[NEXT] = registers[link];
        int saved = readWord(stepUp(STACK, WORD_STEP));
        if (saved != NONE) {
            registers[link] = saved;
            spent += 3;
        }
    }

    private void doFlags(int instruction) {
        work.change(instruction & 017, (instruction & 020) != 0);
        spent++;
    }

    /** Where a jump goes to; NONE if it stops. */
    private int findTarget(int operand) {
        int mode = operand >> 3;
        if (mode == 0) {
            stopReason = NO_SUCH_INSTRUCTION;
            return NONE;
        }
        spent += MODE_CYCLES[mode] - 1;
        return findAddress(mode, operand & 7, WORD_STEP);
    }

    /** The operand's value, its place being kept for the result; NONE if it stops. */
    private int readOperand(int operand, boolean bytes) {
        int mode = operand >> 3;
        int r = operand & 7;
        spent += MODE_CYCLES[mode];
        if (mode == 0) {
            place = NONE;
            return bytes ? registers[r] & BYTE_BITS : registers[r];
        }
        place = findAddress(mode, r, bytes && r < STACK ? 1 : WORD_STEP);
        if (place == NONE) {
            return NONE;
        }
        return bytes ? readByte(place) : readWord(place);
    }

    /** The address that a mode other than 0 leads to; NONE if it stops on the way. */
    private int findAddress(int mode, int r, int size) {
        switch (mode) {
            case 1:
                return registers[r];
            case 2:
                return stepUp(r, size);
            case 3:
                return readWord(stepUp(r, WORD_STEP));
            case 4:
                return stepDown(r, size);
            case 5:
                return readWord(stepDown(r, WORD_STEP));
            default:
                break;
        }
        int offset = readWord(stepUp(NEXT, WORD_STEP));
        if (offset == NONE) {
            return NONE;
        }
        int address = (offset + registers[r]) & WORD_BITS;
        return mode == 6 ? address : readWord(address);
    }

    /** Moves a register up and answers what it was before. */
    private int stepUp(int r, int size) {
        int before = registers[r];
        registers[r] = (before + size) & WORD_BITS;
        return before;
    }

    /** Moves a register down and answers what it is then. */
    private int stepDown(int r, int size) {
        registers[r] = (registers[r] - size) & WORD_BITS;
        return registers[r];
    }

    /** The word at an address; NONE if it stops. */
    private int readWord(int address) {
        if ((address & 1) != 0) {
            stopReason = ODD_WORD;
            return NONE;
        }
        if (address >= MEMORY_BYTES) {
            stopReason = BEYOND_MEMORY;
            return NONE;
        }
        return words[address >> 1];
    }

    /** The byte at an address; NONE if it stops. */
    private int readByte(int address) {
        if (address >= MEMORY_BYTES) {
            stopReason = BEYOND_MEMORY;
            return NONE;
        }
        return (words[address >> 1] >> shiftOf(address)) & BYTE_BITS;
    }

    /** How far up in its word the byte at an address lies. */
    private static int shiftOf(int address) {
        return (address & 1) * 8;
    }

    /** Puts a result where the destination was read, so that there is always such a place. */
    private void putResult(int r, int result, boolean bytes) {
        spent++;
        if (place == NONE) {
            registers[r] = bytes ? (registers[r] & ~BYTE_BITS) | result : result;
        } else if (bytes) {
            int shift = shiftOf(place);
            words[place >> 1] = (words[place >> 1] & ~(BYTE_BITS << shift)) | (result << shift);
        } else {
            words[place >> 1] = result;
        }
    }

    /** Puts a byte into all of a register, with its sign. */
    private void putSigned(int r, int result) {
        spent++;
        registers[r] = (byte) result & WORD_BITS;
    }

    /** The flags and the work that changes them. */
    private static final class Work {
        private boolean n = false;
        private boolean z = false;
        private boolean v = false;
        private boolean c = false;
        private int bits = WORD_BITS;
        private int high = 0x8000;

        /** Says whether the work that follows is of bytes or of words. */
        private void takeWidth(boolean bytes) {
            bits = bytes ? BYTE_BITS : WORD_BITS;
            high = bytes ? 0x80 : 0x8000;
        }

        private int packed() {
            return (n ? 8 : 0) | (z ? 4 : 0) | (v ? 2 : 0) | (c ? 1 : 0);
        }

        private void change(int named, boolean value) {
            n = (named & 8) != 0 ? value : n;
            z = (named & 4) != 0 ? value : z;
            v = (named & 2) != 0 ? value : v;
            c = (named & 1) != 0 ? value : c;
        }

        /** Whether a branch with these bits 15 to 8 is taken. */
        private boolean allows(int branch) {
            switch (branch) {
                case 0x01:
                    return true;
                case 0x02:
                    return !z;
                case 0x03:
                    return z;
                case 0x04:
                    return n == v;
                case 0x05:
                    return n != v;
                case 0x06:
                    return !z && n == v;
                case 0x07:
                    return z || n != v;
                case 0x80:
                    return !n;
                case 0x81:
                    return n;
                case 0x82:
                    return !c && !z;
                case 0x83:
                    return c || z;
                case 0x84:
                    return !v;
                case 0x85:
                    return v;
                case 0x86:
                    return !c;
                default:
                    return c;
            }
        }

        private int ofTwo(int operation, int s, int d) {
            switch (operation) {
                case MOV:
                    return logical(s);
                case CMP:
                    return difference(s, d);
                case BIT:
                    return logical(s & d);
                case BIC:
                    return logical(d & ~s);
                case BIS:
                    return logical(s | d);
                case ADD:
                    return sum(s, d);
                default:
                    return difference(d, s);
            }
        }

        private int ofOne(int operation, int d) {
            switch (operation) {
                case CLR:
                    return settled(0, false, false);
                case COM:
                    return settled(~d, false, true);
                case INC:
                    return settled(d + 1, d + 1 == high, c);
                case DEC:
                    return settled(d - 1, d == high, c);
                case NEG:
                    return settled(-d, d == high, d != 0);
                case ADC:
                    return c ? settled(d + 1, d + 1 == high, d == bits) : settled(d, false, false);
                case SBC:
                    return c ? settled(d - 1, d == high, d == 0) : settled(d, false, false);
                case TST:
                    return settled(d, false, false);
                default:
                    return swapped(d);
            }
        }

        private int ofShift(int operation, int d) {
            boolean lowest = (d & 1) != 0;
            boolean highest = (d & high) != 0;
            switch (operation) {
                case ROR:
                    return shifted((d >> 1) | (c ? high : 0), lowest);
                case ROL:
                    return shifted((d << 1) | (c ? 1 : 0), highest);
                case ASR:
                    return shifted((d >> 1) | (d & high), lowest);
                default:
                    return shifted(d << 1, highest);
            }
        }

        private int logical(int value) {
            return settled(value, false, c);
        }

        private int sum(int a, int b) {
            int value = a + b;
            boolean overflow = (a & high) == (b & high) && (value & high) != (a & high);
            return settled(value, overflow, value > bits);
        }

        private int difference(int a, int b) {
            int value = a - b;
            boolean overflow = (a & high) != (b & high) && (value & high) == (b & high);
            return settled(value, overflow, a < b);
        }

        private int shifted(int value, boolean carry) {
            boolean negative = (value & high) != 0;
            return settled(value, negative != carry, carry);
        }

        private int swapped(int d) {
            int value = ((d << 8) | (d >> 8)) & WORD_BITS;
            n = (value & 0x80) != 0;
            z = (value & BYTE_BITS) == 0;
            v = false;
            c = false;
            return value;
        }

        /** Cuts a result to its bits and sets the flags by it. */
        private int settled(int value, boolean overflow, boolean carry) {
            int result = value & bits;
            n = (result & high) != 0;
            z = result == 0;
            v = overflow;
            c = carry;
            return result;
        }
    }
}
