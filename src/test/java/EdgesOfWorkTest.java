/**
 * The edges of THE WORK, instruction by instruction. Each row is done of words and of bytes, in a register and
 * in memory; h is the highest bit alone, all is every bit. Flags are N 8, Z 4, V 2, C 1.
 */
public final class EdgesOfWorkTest {
    private static final int N = 8;
    private static final int Z = 4;
    private static final int V = 2;
    private static final int C = 1;
    /** What stands in the high byte of a register, beside a byte that is worked on. */
    private static final int ABOVE_SOURCE = 0x5A00;
    private static final int ABOVE = 0xA500;

    private final boolean bytes;
    private final int h;
    private final int all;
    private String sentence;
    private int code;

    private EdgesOfWorkTest(boolean bytes) {
        this.bytes = bytes;
        h = bytes ? 0x80 : 0x8000;
        all = bytes ? 0xFF : 0xFFFF;
    }

    public static void main(String[] args) {
        for (int i = 0; i < 2; i++) {
            EdgesOfWorkTest work = new EdgesOfWorkTest(i == 1);
            work.mov();
            work.cmp();
            work.bit();
            work.bic();
            work.bis();
            work.clr();
            work.tst();
            work.com();
            work.inc();
            work.dec();
            work.neg();
            work.adc();
            work.sbc();
            work.ror();
            work.rol();
            work.asr();
            work.asl();
        }
        EdgesOfWorkTest words = new EdgesOfWorkTest(false);
        words.add();
        words.sub();
        swab();
        putsALowByte();
        movPutsAllOfIt();
        registersAreThoseThatTheyAreThen();
        Check.end();
    }

    private void take(String told, int word) {
        sentence = told + (bytes ? " (of bytes)" : " (of words)");
        code = bytes ? word | 0100000 : word;
    }

    private void mov() {
        take("MOV: s: V 0, C as it was.", 0010000);
        for (int before = 0; before < 16; before++) {
            int c = before & C;
            two(0, all, before, 0, Z + c);
            two(h, 0, before, h, N + c);
            two(h - 1, all, before, h - 1, c);
        }
    }

    private void bit() {
        take("BIT: s and d: V 0, C as it was.", 0030000);
        for (int before = 0; before < 16; before++) {
            int c = before & C;
            two(h, h - 1, before, h - 1, Z + c);
            two(all, h, before, h, N + c);
            two(1, all, before, all, c);
        }
    }

    private void bic() {
        take("BIC: d without the bits of s: V 0, C as it was.", 0040000);
        for (int before = 0; before < 16; before++) {
            int c = before & C;
            two(all, all, before, 0, Z + c);
            two(0, all, before, all, N + c);
            two(h, all, before, h - 1, c);
            two(all, 0, before, 0, Z + c);
        }
    }

    private void bis() {
        take("BIS: s or d: V 0, C as it was.", 0050000);
        for (int before = 0; before < 16; before++) {
            int c = before & C;
            two(0, 0, before, 0, Z + c);
            two(h, 1, before, h + 1, N + c);
            two(1, h - 1, before, h - 1, c);
        }
    }

    private void cmp() {
        take("CMP: s - d: V if H of s and d differ and H of the result is d's; C if s is less than d", 0020000);
        for (int before = 0; before < 16; before += 15) {
            two(0, 0, before, 0, Z);
            two(all, all, before, all, Z);
            two(h, h, before, h, Z);
            two(0, 1, before, 1, N + C);
            two(1, 0, before, 0, 0);
            two(h, 1, before, 1, V);
            two(h, h - 1, before, h - 1, V);
            two(h - 1, h, before, h, N + V + C);
            two(h - 1, all, before, all, N + V + C);
            two(0, h, before, h, N + V + C);
            two(all, h - 1, before, h - 1, N);
            two(h, 0, before, 0, N);
            two(0, all, before, all, C);
            two(h, all, before, all, N + C);
            two(all, h, before, h, 0);
        }
    }

    private void add() {
        take("ADD: d + s: V if H of both is the same and the result's is not; C if it runs over.", 0060000);
        for (int before = 0; before < 16; before += 15) {
            two(0, 0, before, 0, Z);
            two(1, h - 1, before, h, N + V);
            two(h - 1, 1, before, h, N + V);
            two(h - 1, h - 1, before, all - 1, N + V);
            two(h, h, before, 0, Z + V + C);
            two(all, h, before, h - 1, V + C);
            two(1, all, before, 0, Z + C);
            two(all, all, before, all - 1, N + C);
            two(h, h - 1, before, all, N);
            two(1, h - 2, before, h - 1, 0);
            two(1, all - 1, before, all, N);
            two(2, all, before, 1, C);
        }
    }

    private void sub() {
        take("SUB: d - s: V if H of both differ and the result's is s's; C if d is less than s.", 0160000);
        for (int before = 0; before < 16; before += 15) {
            two(0, 0, before, 0, Z);
            two(all, all, before, 0, Z);
            two(1, 0, before, all, N + C);
            two(1, h, before, h - 1, V);
            two(h - 1, h, before, 1, V);
            two(h, 0, before, h, N + V + C);
            two(all, h - 1, before, h, N + V + C);
            two(h - 1, all, before, h, N);
            two(0, h, before, h, N);
            two(all, 0, before, 1, C);
            two(all, h, before, h + 1, N + C);
            two(h, all, before, h - 1, 0);
        }
    }

    private void clr() {
        take("CLR: 0: V 0, C 0.", 0005000);
        for (int before = 0; before < 16; before++) {
            one(0, before, 0, Z);
            one(all, before, 0, Z);
            one(h, before, 0, Z);
        }
    }

    private void tst() {
        take("TST: d: V 0, C 0.", 0005700);
        for (int before = 0; before < 16; before++) {
            one(0, before, 0, Z);
            one(1, before, 1, 0);
            one(h - 1, before, h - 1, 0);
            one(h, before, h, N);
            one(all, before, all, N);
        }
    }

    private void com() {
        take("COM: all bits turned: V 0, C 1.", 0005100);
        for (int before = 0; before < 16; before++) {
            one(0, before, all, N + C);
            one(all, before, 0, Z + C);
            one(h, before, h - 1, C);
            one(h - 1, before, h, N + C);
        }
    }

    private void inc() {
        take("INC: d + 1: V if the result has H alone; C as it was.", 0005200);
        for (int before = 0; before < 16; before++) {
            int c = before & C;
            one(h - 1, before, h, N + V + c);
            one(h - 2, before, h - 1, c);
            one(h, before, h + 1, N + c);
            one(all - 1, before, all, N + c);
            one(all, before, 0, Z + c);
            one(0, before, 1, c);
        }
    }

    private void dec() {
        take("DEC: d - 1: V if d had H alone; C as it was.", 0005300);
        for (int before = 0; before < 16; before++) {
            int c = before & C;
            one(h, before, h - 1, V + c);
            one(h + 1, before, h, N + c);
            one(0, before, all, N + c);
            one(1, before, 0, Z + c);
            one(2, before, 1, c);
        }
    }

    private void neg() {
        take("NEG: 0 - d: V if the result has H alone; C if it is not 0.", 0005400);
        for (int before = 0; before < 16; before++) {
            one(0, before, 0, Z);
            one(1, before, all, N + C);
            one(all, before, 1, C);
            one(h, before, h, N + V + C);
            one(h - 1, before, h + 1, N + C);
            one(h + 1, before, h - 1, C);
        }
    }

    private void adc() {
        take("ADC: d + C: V if C was 1 and the result has H alone; C if C was 1 and the result is 0.", 0005500);
        for (int others = 0; others < 16; others += 2) {
            one(h - 1, others + C, h, N + V);
            one(h - 1, others, h - 1, 0);
            one(h, others, h, N);
            one(all, others + C, 0, Z + C);
            one(all, others, all, N);
            one(0, others, 0, Z);
            one(0, others + C, 1, 0);
        }
    }

    private void sbc() {
        take("SBC: d - C: V if C was 1 and d had H alone; C if C was 1 and d was 0.", 0005600);
        for (int others = 0; others < 16; others += 2) {
            one(h, others + C, h - 1, V);
            one(h, others, h, N);
            one(h + 1, others + C, h, N);
            one(0, others + C, all, N + C);
            one(0, others, 0, Z);
            one(1, others + C, 0, Z);
            one(1, others, 1, 0);
        }
    }

    private void ror() {
        take("ROR: C becomes H, all bits go down, the lowest becomes C; V is whether N and the new C differ.", 0006000);
        for (int others = 0; others < 16; others += 2) {
            one(0, others, 0, Z);
            one(0, others + C, h, N + V);
            one(1, others, 0, Z + V + C);
            one(1, others + C, h, N + C);
            one(h, others, h / 2, 0);
            one(all, others, h - 1, V + C);
            one(all, others + C, all, N + C);
            one(all - 1, others + C, all, N + V);
        }
    }

    private void rol() {
        take("ROL: C becomes the lowest, all go up, H becomes C; V is whether N and the new C differ.", 0006100);
        for (int others = 0; others < 16; others += 2) {
            one(0, others, 0, Z);
            one(0, others + C, 1, 0);
            one(h, others, 0, Z + V + C);
            one(h, others + C, 1, V + C);
            one(h / 2, others, h, N + V);
            one(h + h / 2, others, h, N + C);
            one(all, others, all - 1, N + C);
            one(all, others + C, all, N + C);
            one(h - 1, others + C, all, N + V);
        }
    }

    private void asr() {
        take("ASR: all go down, H stays, the lowest becomes C; V is whether N and the new C differ.", 0006200);
        for (int before = 0; before < 16; before++) {
            one(0, before, 0, Z);
            one(1, before, 0, Z + V + C);
            one(2, before, 1, 0);
            one(h, before, h + h / 2, N + V);
            one(h + 1, before, h + h / 2, N + C);
            one(all, before, all, N + C);
            one(h - 1, before, h / 2 - 1, V + C);
        }
    }

    private void asl() {
        take("ASL: all go up, 0 comes in, H becomes C; V is whether N and the new C differ.", 0006300);
        for (int before = 0; before < 16; before++) {
            one(0, before, 0, Z);
            one(1, before, 2, 0);
            one(h, before, 0, Z + V + C);
            one(h / 2, before, h, N + V);
            one(h + h / 2, before, h, N + C);
            one(all, before, all - 1, N + C);
            one(h - 1, before, all - 1, N + V);
        }
    }

    /** The work on R1 and R2, and on R1 and memory. */
    private void two(int s, int d, int before, int result, int flags) {
        int top = code >> 12 & 7;
        boolean puts = top != 2 && top != 3;
        int source = bytes ? ABOVE_SOURCE | s : s;
        inRegister(0000102, source, d, before).step(puts ? 6 : 5)
            .nowReg(2, top == 1 && bytes ? signed(result) : inTheLowByte(result)).nowFlags(flags).andNoMore();
        for (int address = 300; address <= (bytes ? 301 : 300); address++) {
            inMemory(0000112, source, address, d, before).step(puts ? 7 : 6)
                .nowWord(300, inWord(address, result)).nowFlags(flags).andNoMore();
        }
    }

    /** The work on R2, and on memory. */
    private void one(int d, int before, int result, int flags) {
        boolean puts = (code & 07700) != 05700;
        inRegister(02, 0, d, before).step(puts ? 5 : 4)
            .nowReg(2, inTheLowByte(result)).nowFlags(flags).andNoMore();
        for (int address = 300; address <= (bytes ? 301 : 300); address++) {
            inMemory(012, 0, address, d, before).step(puts ? 6 : 5)
                .nowWord(300, inWord(address, result)).nowFlags(flags).andNoMore();
        }
    }

    private Scene inRegister(int operands, int source, int d, int before) {
        return Scene.of(sentence, code | operands).reg(1, source).reg(2, inTheLowByte(d)).flags(before);
    }

    private Scene inMemory(int operands, int source, int address, int d, int before) {
        return Scene.of(sentence, code | operands).reg(1, source).reg(2, address)
            .word(300, inWord(address, d)).flags(before);
    }

    private int inTheLowByte(int value) {
        return bytes ? ABOVE | value : value;
    }

    private int inWord(int address, int value) {
        if (!bytes) {
            return value;
        }
        return address % 2 == 0 ? 0x3C00 | value : value << 8 | 0x3C;
    }

    private static int signed(int value) {
        return value >= 0x80 ? 0xFF00 | value : value;
    }

    private static void swab() {
        String sentence = "SWAB: both bytes change places: N, Z by the low byte of the result, V 0, C 0.";
        for (int before = 0; before < 16; before++) {
            Scene.of(sentence, 0000302).reg(2, 0).flags(before).step(5).nowFlags(Z).andNoMore();
            Scene.of(sentence, 0000302).reg(2, 0x00FF).flags(before).step(5)
                .nowReg(2, 0xFF00).nowFlags(Z).andNoMore();
            Scene.of(sentence, 0000302).reg(2, 0xFF00).flags(before).step(5)
                .nowReg(2, 0x00FF).nowFlags(N).andNoMore();
            Scene.of(sentence, 0000302).reg(2, 0x7F80).flags(before).step(5)
                .nowReg(2, 0x807F).nowFlags(0).andNoMore();
            Scene.of(sentence, 0000302).reg(2, 0x807F).flags(before).step(5)
                .nowReg(2, 0x7F80).nowFlags(N).andNoMore();
            Scene.of(sentence, 0000312).reg(2, 4094).word(4094, 0x0100).flags(before).step(6)
                .nowWord(4094, 0x0001).nowFlags(0).andNoMore();
        }
    }

    private static void putsALowByte() {
        String sentence = "Putting a byte into a register changes its low byte";
        for (int r = 0; r < 7; r++) {
            // CLRB r, COMB r, INCB r, and BICB and BISB of another register.
            int other = (r + 1) % 7;
            Scene.of(sentence, 0105000 | r).reg(r, 0x80FF).step(5).nowReg(r, 0x8000).nowFlags(Z).andNoMore();
            Scene.of(sentence, 0105100 | r).reg(r, 0x0100).step(5).nowReg(r, 0x01FF).nowFlags(N + C).andNoMore();
            Scene.of(sentence, 0105200 | r).reg(r, 0xFFFF).step(5).nowReg(r, 0xFF00).nowFlags(Z).andNoMore();
            Scene.of(sentence, 0140000 | other << 6 | r).reg(other, 0xFFFF).reg(r, 0x12FF).step(6)
                .nowReg(r, 0x1200).nowFlags(Z).andNoMore();
            Scene.of(sentence, 0150000 | other << 6 | r).reg(other, 0xFF80).reg(r, 0x1200).step(6)
                .nowReg(r, 0x1280).nowFlags(N).andNoMore();
        }
        // INCB R7, CLRB R7 and COMB R7 with R7 510: its high byte stays.
        Scene.of(sentence).program(508, 0105207).step(5).nowReg(7, 511).nowFlags(N).andNoMore();
        Scene.of(sentence).program(508, 0105007).step(5).nowReg(7, 256).nowFlags(Z).andNoMore();
        Scene.of(sentence).program(508, 0105107).step(5).nowReg(7, 257).nowFlags(C).andNoMore();
    }

    private static void movPutsAllOfIt() {
        String sentence = "but MOV of a byte puts all of it: the byte, with its H in all bits above.";
        int[] sources = {0x5A00, 0x5A01, 0x5A7F, 0x5A80, 0x5AFF};
        int[] puts = {0x0000, 0x0001, 0x007F, 0xFF80, 0xFFFF};
        int[] flags = {Z, 0, 0, N, N};
        for (int i = 0; i < sources.length; i++) {
            for (int r = 0; r < 7; r++) {
                int other = (r + 1) % 7;
                Scene.of(sentence, 0110000 | other << 6 | r).reg(other, sources[i]).reg(r, 0xA5A5).step(6)
                    .nowReg(r, puts[i]).nowFlags(flags[i]).andNoMore();
            }
            // MOVB R0, R0 and MOVB R0, R7
            Scene.of(sentence, 0110000).reg(0, sources[i]).step(6).nowReg(0, puts[i]).nowFlags(flags[i]).andNoMore();
            Scene.of(sentence, 0110007).reg(0, sources[i]).step(6).nowReg(7, puts[i]).nowFlags(flags[i]).andNoMore();
        }
        // In memory it puts a byte alone.
        Scene.of(sentence, 0110011).reg(0, 0x80).reg(1, 300).word(300, 0x1234).step(7)
            .nowWord(300, 0x1280).nowFlags(N).andNoMore();
        Scene.of(sentence, 0110011).reg(0, 0x80).reg(1, 301).word(300, 0x1234).word(302, 0x5678).step(7)
            .nowWord(300, 0x8034).nowFlags(N).andNoMore();
        // MOV of a word puts it as it is.
        Scene.of(sentence, 0010001).reg(0, 0x0080).reg(1, 0xA5A5).step(6).nowReg(1, 0x0080).andNoMore();
    }

    private static void registersAreThoseThatTheyAreThen() {
        String sentence = "(The registers are those that they are then.)";
        // BISB (R1)+, R1 from 255 on: R1 is 256 when its low byte is read and put.
        Scene.of(sentence, 0152101).reg(1, 255).word(254, 0x0700).step(7).nowReg(1, 0x0107).andNoMore();
        // BISB -(R1), R1 from 256 on: R1 is 255.
        Scene.of(sentence, 0154101).reg(1, 256).word(254, 0x0700).step(8).nowReg(1, 0x00FF).nowFlags(N).andNoMore();
        // BICB #255, R7 behind 254: R7 is 258 when its low byte is put.
        Scene.of(sentence).program(254, 0142707, 0xFF).step(7).nowReg(7, 0x0100).nowFlags(Z).andNoMore();
        // ADD #2, R7 behind both words.
        Scene.of(sentence, 0062707, 2).step(7).nowReg(7, 6).andNoMore();
        // ADD R7, R7: both are R7 behind the instruction.
        Scene.of(sentence).program(100, 0060707).step(6).nowReg(7, 204).andNoMore();
    }
}
