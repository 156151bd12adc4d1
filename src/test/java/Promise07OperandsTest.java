/** Promise 7: how operands are found, mode by mode, and how many microcycles that takes. */
public final class Promise07OperandsTest {
    private static final int[] MODE_CYCLES = {1, 2, 2, 3, 3, 4, 4, 5};

    public static void main(String[] args) {
        cyclesOfEveryPair();
        wordsByMode();
        bytesByMode();
        stepsOfBytes();
        indexUsesRegisterAsItIsNow();
        sourceComesBeforeDestination();
        addressesRunOver();
        putsBytes();
        movAndClrReadTheDestination();
        Check.end();
    }

    /** Every register points to words that point to words, so that every mode finds something. */
    private static MicroMill ready(int... program) {
        MicroMill mill = Mills.with(program);
        for (int r = 0; r < 7; r++) {
            mill.set(r, 200 + 20 * r);
        }
        for (int address = 100; address < 400; address += 2) {
            mill.poke(address, 100 + address / 2);
        }
        return mill;
    }

    private static void cyclesOfEveryPair() {
        int[] tops = {001, 002, 003, 004, 005, 006, 016, 011, 012, 013, 014, 015};
        for (int top : tops) {
            boolean keeps = (top & 7) == 2 || (top & 7) == 3;
            for (int from = 0; from < 8; from++) {
                for (int to = 0; to < 8; to++) {
                    int word = top << 12 | from << 9 | 1 << 6 | to << 3 | 2;
                    // An address as index is even and small.
                    MicroMill mill = ready(word, 0, 0);
                    for (int address = 100; address < 400; address += 2) {
                        mill.poke(address, 300);
                    }
                    int due = 2 + MODE_CYCLES[from] + MODE_CYCLES[to] + (keeps ? 1 : 2);
                    Check.due(Mills.octal(word) + " step()", mill.step(), due);
                }
            }
        }
        for (int operation = 050; operation <= 064; operation++) {
            for (int to = 0; to < 8; to++) {
                cyclesOfOne(operation == 064 ? 0000300 : operation << 6, to);
                if (operation != 064) {
                    cyclesOfOne(0100000 | operation << 6, to);
                }
            }
        }
    }

    private static void cyclesOfOne(int operation, int mode) {
        int word = operation | mode << 3 | 2;
        MicroMill mill = ready(word, 0);
        for (int address = 200; address < 260; address += 2) {
            mill.poke(address, 300);
        }
        boolean keeps = (operation & 077777) == 0005700;
        Check.due(Mills.octal(word) + " step()", mill.step(), 2 + MODE_CYCLES[mode] + (keeps ? 1 : 2));
    }

    /** MOV of mode SS of R1 to R0, and MOV of R0 to mode DD of R1. */
    private static void wordsByMode() {
        for (int mode = 0; mode < 8; mode++) {
            MicroMill mill = modeRoom(0010000 | mode << 9 | 1 << 6);
            mill.step();
            Check.due("MOV mode " + mode + ", R0: R0", mill.register(0), valueDue(mode));
            Check.due("MOV mode " + mode + ", R0: R1", mill.register(1), pointerDue(mode, 2));
            Check.due("MOV mode " + mode + ", R0: R7", mill.register(7), mode >= 6 ? 4 : 2);

            mill = modeRoom(0010000 | mode << 3 | 1);
            mill.set(0, 7777);
            mill.step();
            if (mode == 0) {
                Check.due("MOV R0, R1", mill.register(1), 7777);
            } else {
                Check.due("MOV R0, mode " + mode + ": memory", mill.peek(placeDue(mode)), 7777);
                Check.due("MOV R0, mode " + mode + ": R1", mill.register(1), pointerDue(mode, 2));
            }
            Check.due("MOV R0, mode " + mode + ": R7", mill.register(7), mode >= 6 ? 4 : 2);
        }
    }

    private static MicroMill modeRoom(int word) {
        MicroMill mill = Mills.with(word, 10);
        mill.set(1, 200);
        mill.poke(198, 300);
        mill.poke(200, 302);
        mill.poke(202, 304);
        mill.poke(210, 306);
        mill.poke(300, 0x1181);
        mill.poke(302, 0x2282);
        mill.poke(304, 0x3383);
        mill.poke(306, 0x4484);
        return mill;
    }

    private static int placeDue(int mode) {
        return new int[] {-1, 200, 200, 302, 198, 300, 210, 306}[mode];
    }

    private static int valueDue(int mode) {
        return new int[] {200, 302, 302, 0x2282, 300, 0x1181, 306, 0x4484}[mode];
    }

    private static int pointerDue(int mode, int step) {
        return new int[] {200, 200, 200 + step, 202, 200 - step, 198, 200, 200}[mode];
    }

    /** BISB of mode SS of R1 to R0, which is 0: its low byte becomes the operand. */
    private static void bytesByMode() {
        // Mode 4 steps down by 1, to the high byte of 300 at 199.
        int[] due = {200, 302 & 255, 302 & 255, 0x82, 0x01, 0x81, 306 & 255, 0x84};
        for (int mode = 0; mode < 8; mode++) {
            MicroMill mill = modeRoom(0150000 | mode << 9 | 1 << 6);
            mill.step();
            Check.due("BISB mode " + mode + ", R0: R0", mill.register(0), due[mode]);
            Check.due("BISB mode " + mode + ", R0: R1", mill.register(1), pointerDue(mode, 1));
        }
    }

    private static void stepsOfBytes() {
        for (int r = 0; r < 8; r++) {
            for (int mode = 2; mode <= 5; mode++) {
                int word = 0105700 | mode << 3 | r;
                MicroMill mill = new MicroMill();
                mill.poke(1000, word);
                mill.poke(1002, 500);
                mill.set(r, 600);
                mill.poke(598, 500);
                mill.poke(600, 500);
                mill.set(7, 1000);
                int before = r == 7 ? 1002 : 600;
                int step = mode == 3 || mode == 5 || r >= 6 ? 2 : 1;
                mill.step();
                // @-(R7) takes the instruction itself as an address, which lies beyond memory.
                Check.due(Mills.octal(word) + " stopped()", mill.stopped(), word == 0105757 ? 4 : 0);
                Check.due(Mills.octal(word) + " register", mill.register(r), mode <= 3 ? before + step : before - step);
            }
        }
    }

    private static void indexUsesRegisterAsItIsNow() {
        // MOV 6(R7), R0: R7 is 4 when it is added.
        MicroMill mill = Mills.with(0016700, 6, 0, 0, 0, 1234);
        Check.due("MOV 6(R7), R0", mill.step(), 9);
        Check.due("R0", mill.register(0), 1234);
        // MOV @6(R7), R0
        mill = Mills.with(0017700, 6, 0, 0, 0, 200);
        mill.poke(200, 4321);
        Check.due("MOV @6(R7), R0", mill.step(), 10);
        Check.due("R0", mill.register(0), 4321);
        // MOV 4(R7), 4(R7): the second is added to R7 as it is after both words.
        mill = Mills.with(0016767, 4, 4, 0, 11, 22);
        Check.due("MOV 4(R7), 4(R7)", mill.step(), 12);
        Check.due("peek(10)", mill.peek(10), 11);
        // MOV -(R7), R0 reads the instruction itself.
        mill = Mills.with(0014700);
        Check.due("MOV -(R7), R0", mill.step(), 8);
        Check.due("R0", mill.register(0), 0014700);
        Check.due("R7", mill.register(7), 0);
    }

    private static void sourceComesBeforeDestination() {
        // MOV R1, (R1)+ puts what R1 was; MOV (R1)+, R1 puts what stood there.
        MicroMill mill = Mills.with(0010121);
        mill.set(1, 100);
        mill.step();
        Check.due("MOV R1, (R1)+: memory", mill.peek(100), 100);
        Check.due("MOV R1, (R1)+: R1", mill.register(1), 102);
        // ADD (R1)+, R1 adds to R1 as it is after the source.
        mill = Mills.with(0062101);
        mill.set(1, 100);
        mill.poke(100, 1000);
        mill.step();
        Check.due("ADD (R1)+, R1", mill.register(1), 1102);
        // SUB (R1)+, (R1)+
        mill = Mills.with(0162121);
        mill.set(1, 100);
        mill.poke(100, 3);
        mill.poke(102, 10);
        mill.step();
        Check.due("SUB (R1)+, (R1)+", mill.peek(102), 7);
        Check.due("R1", mill.register(1), 104);
        // CMP -(R1), -(R1)
        mill = Mills.with(0024141);
        mill.set(1, 104);
        mill.poke(102, 5);
        mill.poke(100, 6);
        mill.step();
        Check.due("CMP -(R1), -(R1)", mill.flags(), 9);
        // ADD #10, R7 adds to R7 behind the word.
        mill = Mills.with(0062707, 10);
        Check.due("ADD #10, R7", mill.step(), 7);
        Check.due("R7", mill.register(7), 14);
        // MOV R7, R0: R7 is the next instruction's address.
        mill = Mills.with(0010700);
        mill.step();
        Check.due("MOV R7, R0", mill.register(0), 2);
    }

    private static void addressesRunOver() {
        MicroMill mill = Mills.with(0005061, 65530);
        mill.set(1, 106);
        mill.poke(100, 5);
        mill.step();
        Check.due("CLR -6(R1)", mill.peek(100), 0);
        Check.due("stopped()", mill.stopped(), 0);

        mill = Mills.with(0005241);
        mill.set(1, 0);
        Check.due("INC -(R1) from 0", mill.step(), -1);
        Check.due("R1", mill.register(1), 65534);
        Check.due("stopped()", mill.stopped(), 4);

        mill = Mills.with(0105721);
        mill.set(1, 65535);
        Check.due("TSTB (R1)+ at 65535", mill.step(), -1);
        Check.due("R1", mill.register(1), 0);
        Check.due("stopped()", mill.stopped(), 4);

        mill = new MicroMill();
        mill.set(7, 65534);
        Check.due("step() at 65534", mill.step(), -1);
        Check.due("R7", mill.register(7), 0);
        Check.due("stopped()", mill.stopped(), 4);
    }

    private static void putsBytes() {
        // COMB R0, MOVB R0, R1, MOVB R2, R3, BISB R2, R1, CLRB R3
        MicroMill mill = Mills.with(0105100, 0110001, 0110203, 0150201, 0105003);
        mill.set(0, 0x1234);
        mill.set(1, 0x7700);
        mill.set(2, 0x5501);
        mill.set(3, 0x7777);
        mill.step();
        Check.due("COMB R0", mill.register(0), 0x12CB);
        mill.step();
        Check.due("MOVB R0, R1", mill.register(1), 0xFFCB);
        mill.step();
        Check.due("MOVB R2, R3", mill.register(3), 0x0001);
        mill.set(1, 0x7700);
        mill.step();
        Check.due("BISB R2, R1", mill.register(1), 0x7701);
        mill.set(3, 0x7777);
        mill.step();
        Check.due("CLRB R3", mill.register(3), 0x7700);

        // MOVB R0, (R1) and MOVB R0, (R1) at an odd address; INCB (R1)
        mill = Mills.with(0110011, 0110021, 0105211);
        mill.set(0, 0x12FE);
        mill.set(1, 100);
        mill.poke(98, 0x5555);
        mill.poke(100, 0x3344);
        mill.poke(102, 0x5555);
        mill.step();
        Check.due("MOVB R0, (R1)", mill.peek(100), 0x33FE);
        mill.set(1, 101);
        mill.set(0, 0x12FF);
        mill.step();
        Check.due("MOVB R0, (R1)+ odd", mill.peek(100), 0xFFFE);
        Check.due("R1", mill.register(1), 102);
        mill.set(1, 101);
        mill.step();
        Check.due("INCB (R1) odd", mill.peek(100), 0x00FE);
        Check.due("peek(98)", mill.peek(98), 0x5555);
        Check.due("peek(102)", mill.peek(102), 0x5555);

        // MOVB into R7: all of it, with its sign.
        mill = Mills.with(0112707, 0x44);
        Check.due("MOVB #68, R7", mill.step(), 7);
        Check.due("R7", mill.register(7), 0x44);
    }

    private static void movAndClrReadTheDestination() {
        // MOV R0, (R1) and CLR (R1) at an odd address, and beyond memory.
        int[] words = {0010011, 0005011};
        for (int word : words) {
            MicroMill mill = Mills.with(word);
            mill.set(1, 101);
            Mills.giveFlags(mill, 15);
            Check.due(Mills.octal(word) + " odd", mill.step(), -1);
            Check.due("stopped()", mill.stopped(), 3);
            Check.due("flags()", mill.flags(), 15);
            mill = Mills.with(word);
            mill.set(1, 4096);
            Check.due(Mills.octal(word) + " beyond", mill.step(), -1);
            Check.due("stopped()", mill.stopped(), 4);
        }
        // MOVB R0, (R1) and CLRB (R1) at 4095 go, at 4096 not.
        int[] byteWords = {0110011, 0105011};
        for (int word : byteWords) {
            MicroMill mill = Mills.with(word);
            mill.set(1, 4095);
            mill.poke(4094, 0x7777);
            Check.due(Mills.octal(word) + " at 4095", mill.step(), word == 0110011 ? 7 : 6);
            Check.due("peek(4094)", mill.peek(4094), 0x0077);
            mill = Mills.with(word);
            mill.set(1, 4096);
            Check.due(Mills.octal(word) + " at 4096", mill.step(), -1);
            Check.due("stopped()", mill.stopped(), 4);
        }
    }
}
