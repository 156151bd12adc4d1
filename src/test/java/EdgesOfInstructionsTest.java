/** The edges of what the document tells of an instruction, its fetch, its operands' order and its width. */
public final class EdgesOfInstructionsTest {
    private static final String NOT_TOLD = "Those that are not told here are stop 2.";

    public static void main(String[] args) {
        fetchesAtTheEnds();
        fetchesWhatStandsThereNow();
        notTold();
        toldBesideThoseThatAreNot();
        lastOfModeSeven();
        noBranchBeyondTheLast();
        twoOperandsOfWords();
        twoOperandsOfBytes();
        oneOperandOfWords();
        oneOperandOfBytes();
        swabOfWords();
        sourceThenDestination();
        putsAllButThree();
        Check.end();
    }

    private static void fetchesAtTheEnds() {
        String sentence = "2 microcycles: R7 becomes R7 + 2, then the word at the address that R7 was before is read";
        Scene.of(sentence).program(0, 0000240).step(3).nowReg(7, 2).andNoMore();
        Scene.of(sentence).program(4094, 0000240).step(3).nowReg(7, 4096).andNoMore();
        Scene.of(sentence).reg(7, 4095).stop(3).nowReg(7, 4097).andNoMore();
        Scene.of(sentence).reg(7, 4096).stop(4).nowReg(7, 4098).andNoMore();
        Scene.of(sentence).reg(7, 4097).stop(3).nowReg(7, 4099).andNoMore();
        // The word at 0 is not what is read at 65534, though R7 comes to 0.
        Scene.of(sentence, 0005201).reg(7, 65534).stop(4).nowReg(7, 0).andNoMore();
        Scene.of(sentence, 0005201).reg(7, 65535).stop(3).nowReg(7, 1).andNoMore();
    }

    private static void fetchesWhatStandsThereNow() {
        String sentence = "it is the instruction.";
        // MOV R0, (R7) puts INC R1 over the HALT that comes next.
        Scene.of(sentence, 0010017, 0000000).reg(0, 0005201)
            .step(7).nowWord(2, 0005201).andNoMore().step(5).nowReg(1, 1).andNoMore();
        // MOV R0, -(R7) puts INC R1 over itself.
        Scene.of(sentence, 0010047).reg(0, 0005201)
            .step(8).nowWord(0, 0005201).nowReg(7, 0).andNoMore().step(5).nowReg(1, 1).andNoMore();
    }

    private static void notTold() {
        int[] firstAndLast = {
            0000001, 0000107, 0000210, 0000237, 0006400, 0007777, 0070000, 0076777,
            0104000, 0104777, 0106400, 0107777, 0170000, 0177777,
        };
        for (int word : firstAndLast) {
            Scene.of(NOT_TOLD, word, 100, 100).reg(6, 300).reg(7, 0).flags(15).stop(2).andNoMore();
        }
        // The instructions that such machines have elsewhere: WAIT, RTI, RESET, MARK, SXT, MUL, XOR, EMT, TRAP, MTPS.
        int[] elsewhere = {
            0000001, 0000002, 0000005, 0006400, 0006700, 0070001, 0074001, 0104000, 0104400, 0106400,
        };
        for (int word : elsewhere) {
            Scene.of(NOT_TOLD, word).reg(0, 5).reg(1, 7).reg(6, 300).flags(5).stop(2).andNoMore();
        }
    }

    private static void toldBesideThoseThatAreNot() {
        Scene.of(NOT_TOLD, 0000000).stop(1).andNoMore();
        Scene.of(NOT_TOLD, 0000110).reg(0, 50).step(4).nowReg(7, 50).andNoMore();
        Scene.of(NOT_TOLD, 0000200).reg(0, 50).reg(6, 300).word(300, 9).step(5)
            .nowReg(0, 9).nowReg(6, 302).nowReg(7, 50).andNoMore();
        Scene.of(NOT_TOLD, 0000207).reg(6, 300).word(300, 50).step(5).nowReg(6, 302).nowReg(7, 50).andNoMore();
        Scene.of(NOT_TOLD, 0000240).flags(15).step(3).andNoMore();
        Scene.of(NOT_TOLD, 0000277).step(3).nowFlags(15).andNoMore();
        Scene.of(NOT_TOLD, 0000300).step(5).nowFlags(4).andNoMore();
        Scene.of(NOT_TOLD, 0000400).step(4).andNoMore();
        Scene.of(NOT_TOLD, 0003777).step(3).andNoMore();
        Scene.of(NOT_TOLD, 0004010).reg(0, 50).reg(6, 300).step(9)
            .nowReg(0, 2).nowReg(6, 298).nowReg(7, 50).nowWord(298, 50).andNoMore();
        Scene.of(NOT_TOLD, 0005000).reg(0, 9).step(5).nowReg(0, 0).nowFlags(4).andNoMore();
        Scene.of(NOT_TOLD, 0010000).step(6).nowFlags(4).andNoMore();
        Scene.of(NOT_TOLD, 0077000).reg(0, 1).step(4).nowReg(0, 0).andNoMore();
        Scene.of(NOT_TOLD, 0077777).step(5).nowReg(7, 65411).andNoMore();
        Scene.of(NOT_TOLD, 0100000).step(4).andNoMore();
        Scene.of(NOT_TOLD, 0103777).step(3).andNoMore();
        Scene.of(NOT_TOLD, 0105000).reg(0, 0x1234).step(5).nowReg(0, 0x1200).nowFlags(4).andNoMore();
        Scene.of(NOT_TOLD, 0110000).reg(0, 0x1280).step(6).nowReg(0, 0xFF80).nowFlags(8).andNoMore();
    }

    /** The last words of their kinds have mode 7 of R7: @x(R7). */
    private static void lastOfModeSeven() {
        // JMP, SWAB, JSR R7, ASL, ASLB with x at 2, the address at 100 and 300 standing there.
        Scene.of(NOT_TOLD, 0000177, 96).word(100, 300).step(7).nowReg(7, 300).andNoMore();
        Scene.of(NOT_TOLD, 0000377, 96).word(100, 300).word(300, 0x1280).step(9)
            .nowReg(7, 4).nowWord(300, 0x8012).nowFlags(0).andNoMore();
        Scene.of(NOT_TOLD, 0004777, 96).word(100, 300).reg(6, 400).step(12)
            .nowReg(6, 398).nowReg(7, 300).nowWord(398, 4).andNoMore();
        Scene.of(NOT_TOLD, 0006377, 96).word(100, 300).word(300, 0x4080).step(9)
            .nowReg(7, 4).nowWord(300, 0x8100).nowFlags(10).andNoMore();
        Scene.of(NOT_TOLD, 0106377, 96).word(100, 300).word(300, 0x4080).step(9)
            .nowReg(7, 4).nowWord(300, 0x4000).nowFlags(7).andNoMore();
        // ADD, BISB and SUB with x and y, the addresses at 100 and 102.
        Scene.of(NOT_TOLD, 0067777, 96, 96).word(100, 300).word(102, 302).word(300, 5).word(302, 7).step(14)
            .nowReg(7, 6).nowWord(302, 12).andNoMore();
        Scene.of(NOT_TOLD, 0157777, 96, 96).word(100, 300).word(102, 303).word(300, 5).word(302, 0x0203).step(14)
            .nowReg(7, 6).nowWord(302, 0x0703).andNoMore();
        Scene.of(NOT_TOLD, 0167777, 96, 96).word(100, 300).word(102, 302).word(300, 5).word(302, 7).step(14)
            .nowReg(7, 6).nowWord(302, 2).andNoMore();
    }

    private static void noBranchBeyondTheLast() {
        String sentence = "BRANCHES: bits 15 to 8, in hexadecimal, 01 .. 07 and 80 .. 87";
        for (int flags = 0; flags < 16; flags++) {
            // With bits 15 to 8 being 00 and 88: no branch, whatever the flags are.
            Scene.of(sentence, 0x0005).flags(flags).stop(2).andNoMore();
            Scene.of(sentence, 0x8805).flags(flags).stop(2).andNoMore();
            Scene.of(sentence, 0x8905).flags(flags).stop(2).andNoMore();
        }
    }

    private static void twoOperandsOfWords() {
        String sentence = "01SSDD MOV .. 05SSDD BIS, 06SSDD ADD, 16SSDD SUB, all of words";
        int[] tops = {001, 002, 003, 004, 005, 006, 016};
        for (int top : tops) {
            // (R1)+, R2 at an odd address; R2, (R1)+ at an odd address
            Scene.of(sentence, top << 12 | 0002102).reg(1, 101).word(100, 0x8080).flags(9).stop(3)
                .nowReg(1, 103).andNoMore();
            Scene.of(sentence, top << 12 | 0000221).reg(1, 101).word(100, 0x8080).flags(9).stop(3)
                .nowReg(1, 103).andNoMore();
        }
        // ADD (R1)+, R2 and SUB (R1)+, R2 take whole words, and step by 2.
        Scene.of(sentence, 0062102).reg(1, 100).reg(2, 0x0101).word(100, 0x12FF).step(7)
            .nowReg(1, 102).nowReg(2, 0x1400).nowFlags(0).andNoMore();
        Scene.of(sentence, 0162102).reg(1, 100).reg(2, 0x1400).word(100, 0x12FF).step(7)
            .nowReg(1, 102).nowReg(2, 0x0101).nowFlags(0).andNoMore();
        Scene.of(sentence, 0164102).reg(1, 102).reg(2, 0x1400).word(100, 0x12FF).step(8)
            .nowReg(1, 100).nowReg(2, 0x0101).nowFlags(0).andNoMore();
    }

    private static void twoOperandsOfBytes() {
        String sentence = "11SSDD to 15SSDD the first five of bytes";
        int[] results = {0, 0xFF81, 0x4203, 0x4203, 0x4202, 0x4283};
        int[] flags = {0, 8, 2, 0, 0, 8};
        for (int top = 1; top <= 5; top++) {
            boolean keeps = top == 2 || top == 3;
            // (R1)+, R2 of a high byte
            Scene.of(sentence, 0100000 | top << 12 | 0002102).reg(1, 101).reg(2, 0x4203).word(100, 0x8155)
                .step(keeps ? 6 : 7).nowReg(1, 102).nowReg(2, results[top]).nowFlags(flags[top]).andNoMore();
        }
    }

    private static void oneOperandOfWords() {
        String sentence = "ONE: 0050DD CLR .. 0063DD ASL of words";
        for (int code = 050; code <= 063; code++) {
            // (R1)+ at an odd address
            Scene.of(sentence, code << 6 | 021).reg(1, 101).word(100, 0x8080).flags(9).stop(3)
                .nowReg(1, 103).andNoMore();
        }
        // CLR (R1)+ and ASL (R1)+ change both bytes.
        Scene.of(sentence, 0005021).reg(1, 100).word(100, 0x1234).step(6)
            .nowReg(1, 102).nowWord(100, 0).nowFlags(4).andNoMore();
        Scene.of(sentence, 0006321).reg(1, 100).word(100, 0x1280).step(6)
            .nowReg(1, 102).nowWord(100, 0x2500).nowFlags(0).andNoMore();
    }

    private static void oneOperandOfBytes() {
        String sentence = "the same with 1 as first digit of bytes";
        // Of 0x81 with C 1, in the order of the instructions.
        int[] results = {0x00, 0x7E, 0x82, 0x80, 0x7F, 0x82, 0x80, 0x81, 0xC0, 0x03, 0xC0, 0x02};
        int[] flags = {4, 1, 9, 9, 1, 8, 8, 8, 9, 3, 9, 3};
        for (int i = 0; i < results.length; i++) {
            // (R1)+ of a high byte
            Scene.of(sentence, 0100000 | (050 + i) << 6 | 021).reg(1, 101).word(100, 0x8155).flags(1)
                .step(i == 7 ? 5 : 6)
                .nowReg(1, 102).nowWord(100, results[i] << 8 | 0x55).nowFlags(flags[i]).andNoMore();
        }
    }

    private static void swabOfWords() {
        String sentence = "0003DD SWAB of words.";
        Scene.of(sentence, 0000321).reg(1, 101).word(100, 0x1234).flags(15).stop(3).nowReg(1, 103).andNoMore();
        Scene.of(sentence, 0000321).reg(1, 100).word(100, 0x1234).flags(15).step(6)
            .nowReg(1, 102).nowWord(100, 0x3412).nowFlags(0).andNoMore();
        // There is none of bytes: 100321 is a branch by -47.
        Scene.of(sentence).program(200, 0100321).reg(1, 101).step(4).nowReg(7, 202 - 2 * 47).andNoMore();
    }

    private static void sourceThenDestination() {
        String sentence = "The source (SS) is found and read, then the destination (DD)";
        // MOV R1, (R1)+ and MOV R1, -(R1): the source is R1 as it was.
        Scene.of(sentence, 0010121).reg(1, 100).step(7).nowReg(1, 102).nowWord(100, 100).andNoMore();
        Scene.of(sentence, 0010141).reg(1, 102).step(8).nowReg(1, 100).nowWord(100, 102).andNoMore();
        // SUB (R1)+, R1 and SUB -(R1), R1: the destination is R1 as it is then.
        Scene.of(sentence, 0162101).reg(1, 100).word(100, 2).step(7).nowReg(1, 100).andNoMore();
        Scene.of(sentence, 0164101).reg(1, 102).word(100, 2).step(8).nowReg(1, 98).andNoMore();
        // SUB (R1)+, (R1)+ and SUB -(R1), -(R1)
        Scene.of(sentence, 0162121).reg(1, 100).word(100, 3).word(102, 10).step(8)
            .nowReg(1, 104).nowWord(102, 7).andNoMore();
        Scene.of(sentence, 0164141).reg(1, 104).word(102, 3).word(100, 10).step(10)
            .nowReg(1, 100).nowWord(100, 7).andNoMore();
        // SUB #3, @#100: the source's word comes first.
        Scene.of(sentence, 0162737, 3, 100).word(100, 10).step(9).nowReg(7, 6).nowWord(100, 7).andNoMore();
        // SUB 96(R7), 96(R7): each adds R7 as it is then.
        Scene.of(sentence, 0166767, 96, 96).word(100, 3).word(102, 10).step(12)
            .nowReg(7, 6).nowWord(102, 7).andNoMore();
        // MOV R7, 98(R1): the source is R7 before the destination's word.
        Scene.of(sentence, 0010761, 98).reg(1, 2).step(9).nowReg(7, 4).nowWord(100, 2).andNoMore();
    }

    private static void putsAllButThree() {
        String sentence = "1 microcycle for the work, and 1 more for putting the result (of all but CMP, BIT, TST).";
        for (int top = 1; top <= 6; top++) {
            int took = top == 2 || top == 3 ? 2 + 1 + 2 + 1 : 2 + 1 + 2 + 1 + 1;
            // R3, (R1) with 0 in both: the result is 0.
            Scene.of(sentence, top << 12 | 0000311).reg(1, 100).word(100, 0).step(took).nowFlags(4).andNoMore();
        }
        Scene.of(sentence, 0160311).reg(1, 100).word(100, 0).step(7).nowFlags(4).andNoMore();
        // CMP R0, (R1) and BIT R0, (R1) and TST (R1), and those of bytes: what is there stays.
        int[] keeping = {0020011, 0120011, 0030011, 0130011};
        for (int word : keeping) {
            boolean compares = (word >> 12 & 7) == 2;
            Scene.of(sentence, word).reg(0, 5).reg(1, 100).word(100, 6).step(6)
                .nowFlags(compares ? 9 : 0).andNoMore();
        }
        Scene.of(sentence, 0005711).reg(1, 100).word(100, 6).flags(15).step(5).nowFlags(0).andNoMore();
        Scene.of(sentence, 0105711).reg(1, 100).word(100, 6).flags(15).step(5).nowFlags(0).andNoMore();
    }
}
