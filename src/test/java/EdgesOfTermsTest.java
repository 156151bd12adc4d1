/** The edges that the first paragraph of the document's Terms names, sentence by sentence. */
public final class EdgesOfTermsTest {
    public static void main(String[] args) {
        wordsRunOver();
        bytesRunOver();
        addressesRunOver();
        memoryHasItsEnds();
        memoryDoesNotGoRound();
        wordsHaveTheirLowByteFirst();
        registersAreWords();
        sixIsTheStacks();
        sevenIsTheNextAddress();
        flagsAreFour();
        Check.end();
    }

    private static void wordsRunOver() {
        String sentence = "A WORD has 16 bits; sums run over.";
        // INC R1, DEC R1, ADD R1, R2, SUB R1, R2, SOB R1
        Scene.of(sentence, 0005201).reg(1, 65535).step(5).nowReg(1, 0).nowFlags(4).andNoMore();
        Scene.of(sentence, 0005301).reg(1, 0).step(5).nowReg(1, 65535).nowFlags(8).andNoMore();
        Scene.of(sentence, 0060102).reg(1, 65535).reg(2, 65535).step(6).nowReg(2, 65534).nowFlags(9).andNoMore();
        Scene.of(sentence, 0160102).reg(1, 65535).reg(2, 0).step(6).nowReg(2, 1).nowFlags(1).andNoMore();
        Scene.of(sentence, 0077100).reg(1, 0).step(5).nowReg(1, 65535).andNoMore();
        // INC (R1): the word above it stays.
        Scene.of(sentence, 0005211).reg(1, 100).word(100, 65535).word(102, 7).step(6)
            .nowWord(100, 0).nowFlags(4).andNoMore();
    }

    private static void bytesRunOver() {
        String sentence = "a BYTE 8; sums run over.";
        // INCB R1 and DECB R1: the high byte stays.
        Scene.of(sentence, 0105201).reg(1, 0x12FF).step(5).nowReg(1, 0x1200).nowFlags(4).andNoMore();
        Scene.of(sentence, 0105301).reg(1, 0x1200).step(5).nowReg(1, 0x12FF).nowFlags(8).andNoMore();
        // INCB (R1) of a low byte and of a high byte.
        Scene.of(sentence, 0105211).reg(1, 100).word(100, 0x12FF).step(6)
            .nowWord(100, 0x1200).nowFlags(4).andNoMore();
        Scene.of(sentence, 0105211).reg(1, 101).word(100, 0xFF12).word(102, 0x3434).step(6)
            .nowWord(100, 0x0012).nowFlags(4).andNoMore();
        // ASLB R1 loses its highest bit to C, ROLB R1 takes no bit from the high byte.
        Scene.of(sentence, 0106301).reg(1, 0x7F80).step(5).nowReg(1, 0x7F00).nowFlags(7).andNoMore();
        Scene.of(sentence, 0106101).reg(1, 0xFF00).step(5).nowReg(1, 0xFF00).nowFlags(4).andNoMore();
    }

    private static void addressesRunOver() {
        String sentence = "sums run over.";
        // TST x(R1): 65535 + 101 and 1 + 65535 are addresses in memory.
        Scene.of(sentence, 0005761, 65535).reg(1, 101).word(100, 9).flags(15).step(7)
            .nowReg(7, 4).nowFlags(0).andNoMore();
        Scene.of(sentence, 0005761, 1).reg(1, 65535).step(7).nowReg(7, 4).nowFlags(0).andNoMore();
        // A branch and SOB back over 0.
        Scene.of(sentence, 0x0180).step(4).nowReg(7, 65282).andNoMore();
        Scene.of(sentence, 0077177).reg(1, 9).step(5).nowReg(1, 8).nowReg(7, 65412).andNoMore();
        // JSR with R6 1 and RTS with R6 65534.
        Scene.of(sentence, 0004512).reg(2, 50).reg(6, 1).stop(3).nowReg(6, 65535).andNoMore();
        Scene.of(sentence, 0000205).reg(5, 50).reg(6, 65534).stop(4).nowReg(6, 0).nowReg(7, 50).andNoMore();
    }

    private static void memoryHasItsEnds() {
        String sentence = "MEMORY has the bytes 0 .. 4095";
        // MOVB R0, (R1)
        Scene.of(sentence).program(100, 0110011).reg(0, 0x55).reg(1, 0).word(0, 0x1111).step(7)
            .nowWord(0, 0x1155).andNoMore();
        Scene.of(sentence).program(100, 0110011).reg(0, 0x55).reg(1, 4095).word(4094, 0x1111).step(7)
            .nowWord(4094, 0x5511).andNoMore();
        Scene.of(sentence).program(100, 0110011).reg(0, 0x55).reg(1, 4096).word(4094, 0x1111).stop(4).andNoMore();
        // MOV R0, (R1)
        Scene.of(sentence).program(100, 0010011).reg(0, 0x55).reg(1, 0).step(7).nowWord(0, 0x55).andNoMore();
        Scene.of(sentence).program(100, 0010011).reg(0, 0x55).reg(1, 4094).step(7).nowWord(4094, 0x55).andNoMore();
        Scene.of(sentence).program(100, 0010011).reg(0, 0x55).reg(1, 4096).word(4094, 7).stop(4).andNoMore();
    }

    private static void memoryDoesNotGoRound() {
        String sentence = "MEMORY has the bytes 0 .. 4095, and none beyond is another's";
        int[] beyond = {4096, 8192, 32768, 61440, 65534};
        for (int address : beyond) {
            // CLR (R1) and CLRB (R1)
            Scene.of(sentence).program(100, 0005011).reg(1, address).word(0, 0x1234).word(4094, 0x5678)
                .flags(15).stop(4).andNoMore();
            Scene.of(sentence).program(100, 0105011).reg(1, address).word(0, 0x1234).word(4094, 0x5678)
                .flags(15).stop(4).andNoMore();
        }
    }

    private static void wordsHaveTheirLowByteFirst() {
        String sentence = "a word lies at an even address, its low byte first.";
        // MOVB (R1), R0
        Scene.of(sentence, 0111100).reg(1, 4094).word(4094, 0x1234).step(7).nowReg(0, 0x34).andNoMore();
        Scene.of(sentence, 0111100).reg(1, 4095).word(4094, 0x1234).step(7).nowReg(0, 0x12).andNoMore();
        // MOVB R0, (R1)
        Scene.of(sentence, 0110011).reg(0, 0x77).reg(1, 200).word(200, 0x1234).step(7)
            .nowWord(200, 0x1277).andNoMore();
        Scene.of(sentence, 0110011).reg(0, 0x77).reg(1, 201).word(200, 0x1234).step(7)
            .nowWord(200, 0x7734).andNoMore();
    }

    private static void registersAreWords() {
        String sentence = "REGISTERS 0 .. 7 are words";
        for (int r = 0; r < 7; r++) {
            // COM r, INC r
            Scene.of(sentence, 0005100 | r, 0005200 | r).reg(r, 0)
                .step(5).nowReg(r, 65535).nowFlags(9).andNoMore()
                .step(5).nowReg(r, 0).nowFlags(5).andNoMore();
        }
        // COM R7
        Scene.of(sentence, 0005107).step(5).nowReg(7, 65533).nowFlags(9).andNoMore();
    }

    private static void sixIsTheStacks() {
        String sentence = "R6 is the stack's";
        // JSR R5, (R1); RTS R5: the stack's first word is memory's last.
        Scene.of(sentence).program(100, 0004511).reg(1, 200).reg(5, 77).reg(6, 4096).word(200, 0000205)
            .step(9).nowReg(5, 102).nowReg(6, 4094).nowReg(7, 200).nowWord(4094, 77).andNoMore()
            .step(5).nowReg(5, 77).nowReg(6, 4096).nowReg(7, 102).andNoMore();
        // And its last word is memory's first.
        Scene.of(sentence).program(100, 0004511).reg(1, 200).reg(5, 77).reg(6, 2).word(200, 0000205)
            .step(9).nowReg(5, 102).nowReg(6, 0).nowReg(7, 200).nowWord(0, 77).andNoMore()
            .step(5).nowReg(5, 77).nowReg(6, 2).nowReg(7, 102).andNoMore();
    }

    private static void sevenIsTheNextAddress() {
        String sentence = "R7 the next instruction's address.";
        // MOV R7, R0 at memory's first and last word.
        Scene.of(sentence).program(0, 0010700).step(6).nowReg(0, 2).andNoMore();
        Scene.of(sentence).program(4094, 0010700).step(6).nowReg(0, 4096).andNoMore();
        // MOV R0, R7 goes where R0 says.
        Scene.of(sentence).program(0, 0010007).reg(0, 4094).word(4094, 0000240)
            .step(6).nowReg(7, 4094).andNoMore().step(3).andNoMore().stop(4).andNoMore();
    }

    private static void flagsAreFour() {
        String sentence = "FLAGS are N, Z, V, C.";
        for (int flags = 0; flags < 16; flags++) {
            Scene.of(sentence, 0000240).flags(flags).andNoMore().step(3).andNoMore();
        }
    }
}
