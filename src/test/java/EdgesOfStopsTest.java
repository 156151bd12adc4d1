/** The edges of the document's STOPS, sentence by sentence. */
public final class EdgesOfStopsTest {
    private static final String ODD = "3 a word at an odd address";
    private static final String BEYOND = "4 a word or byte at an address beyond memory";
    private static final String ODD_FIRST = "(3 comes first)";
    private static final String STAYS = "What an instruction did before it stopped stays.";

    public static void main(String[] args) {
        halts();
        noSuchInstruction();
        int[] odd = {1, 3, 4093, 4095};
        for (int address : odd) {
            wordAt(ODD, address, 3);
        }
        int[] beyond = {4096, 4098, 32768, 65534};
        for (int address : beyond) {
            wordAt(BEYOND, address, 4);
            byteAt(BEYOND, address);
        }
        // A byte may lie at an odd address: 4 is then the only reason.
        byteAt(BEYOND, 4097);
        byteAt(BEYOND, 65535);
        int[] both = {4097, 4099, 32769, 65535};
        for (int address : both) {
            wordAt(ODD_FIRST, address, 3);
        }
        fetchStays();
        stepsOfSourceStay();
        stepsOfDestinationStay();
        stepsOfPointersStay();
        indexWordsStay();
        stackStays();
        nothingAfterTheStop();
        firstReasonCounts();
        Check.end();
    }

    private static void halts() {
        String sentence = "1 HALT";
        Scene.of(sentence, 0000000).flags(15).stop(1).andNoMore();
        Scene.of(sentence).program(4094, 0000000).flags(9).stop(1).andNoMore();
        // What comes just behind it is no HALT.
        Scene.of(sentence, 0000001).stop(2).andNoMore();
    }

    private static void noSuchInstruction() {
        String sentence = "2 an instruction that there is not";
        int[] words = {0000001, 0000077, 0000100, 0000210, 0000237, 0004000, 0007777, 0070000, 0107777, 0177777};
        for (int word : words) {
            Scene.of(sentence, word, 100, 100).reg(1, 1).flags(15).stop(2).andNoMore();
            Scene.of(sentence).program(4094, word).flags(0).stop(2).andNoMore();
        }
    }

    /** Every way in which an instruction comes to a word at an address. */
    private static void wordAt(String sentence, int address, int reason) {
        // The fetch.
        Scene.of(sentence).reg(7, address).flags(15).stop(reason).andNoMore();
        for (int mode = 1; mode < 8; mode++) {
            // TST, CLR and SWAB of R1; BIT of R1 as source, MOV to it as destination.
            operandAt(sentence, 0005701 | mode << 3, address, reason);
            operandAt(sentence, 0005001 | mode << 3, address, reason);
            operandAt(sentence, 0000301 | mode << 3, address, reason);
            operandAt(sentence, 0010001 | mode << 3, address, reason);
            operandAt(sentence, 0160001 | mode << 3, address, reason);
            sourceAt(sentence, 0030102 | mode << 9, address, reason);
        }
        for (int mode = 3; mode < 8; mode += 2) {
            // An address stands in a word, of TSTB, JMP and JSR too.
            operandAt(sentence, 0105701 | mode << 3, address, reason);
            operandAt(sentence, 0000101 | mode << 3, address, reason);
            operandAt(sentence, 0004501 | mode << 3, address, reason);
            pointedAt(sentence, 0005701 | mode << 3, address, reason);
            pointedAt(sentence, 0005001 | mode << 3, address, reason);
        }
        // JSR R5, (R1) and RTS R5
        Scene.of(sentence, 0004511).reg(1, 50).reg(5, 60).reg(6, address + 2 & 0xFFFF).flags(15).stop(reason)
            .nowReg(6, address).andNoMore();
        Scene.of(sentence, 0000205).reg(5, 60).reg(6, address).flags(15).stop(reason)
            .nowReg(6, address + 2 & 0xFFFF).nowReg(7, 60).andNoMore();
    }

    /** Every way in which an instruction comes to a byte at an address. */
    private static void byteAt(String sentence, int address) {
        int[] modes = {1, 2, 4, 6};
        for (int mode : modes) {
            // TSTB, CLRB, MOVB to R1; BITB of R1 as source
            operandAt(sentence, 0105701 | mode << 3, address, 4);
            operandAt(sentence, 0105001 | mode << 3, address, 4);
            operandAt(sentence, 0110001 | mode << 3, address, 4);
            sourceAt(sentence, 0130102 | mode << 9, address, 4);
        }
        for (int mode = 3; mode < 8; mode += 2) {
            pointedAt(sentence, 0105701 | mode << 3, address, 4);
            pointedAt(sentence, 0105001 | mode << 3, address, 4);
        }
    }

    private static void operandAt(String sentence, int word, int address, int reason) {
        stopAt(sentence, word, word >> 3 & 7, address, reason);
    }

    private static void sourceAt(String sentence, int word, int address, int reason) {
        stopAt(sentence, word, word >> 9 & 7, address, reason);
    }

    /** The first word or byte that a mode of R1 reads lies at the address. */
    private static void stopAt(String sentence, int word, int mode, int address, int reason) {
        boolean bytes = word >= 0100000 && word < 0160000;
        int step = bytes && mode % 2 == 0 ? 1 : 2;
        boolean down = mode == 4 || mode == 5;
        boolean up = mode == 2 || mode == 3;
        Scene.of(sentence, word, 0).reg(1, down ? address + step & 0xFFFF : address).reg(6, 300).flags(15).stop(reason)
            .nowReg(1, up ? address + step & 0xFFFF : address).nowReg(7, mode >= 6 ? 4 : 2).andNoMore();
    }

    /** The address stands in memory, where a mode of R1 finds it. */
    private static void pointedAt(String sentence, int word, int address, int reason) {
        int mode = word >> 3 & 7;
        Scene.of(sentence, word, 0).reg(1, mode == 5 ? 202 : 200).word(200, address).flags(15).stop(reason)
            .nowReg(1, mode == 3 ? 202 : 200).nowReg(7, mode == 7 ? 4 : 2).andNoMore();
    }

    private static void fetchStays() {
        Scene.of(STAYS).reg(7, 65535).stop(3).nowReg(7, 1).andNoMore();
        Scene.of(STAYS).reg(7, 65534).stop(4).nowReg(7, 0).andNoMore();
        Scene.of(STAYS).reg(7, 4096).stop(4).nowReg(7, 4098).andNoMore();
    }

    private static void stepsOfSourceStay() {
        // MOV (R1)+, (R2), MOV -(R1), (R2), ADD @(R1)+, (R2), ADD @-(R1), (R2): R2 is odd.
        Scene.of(STAYS, 0012112).reg(1, 100).reg(2, 201).stop(3).nowReg(1, 102).andNoMore();
        Scene.of(STAYS, 0014112).reg(1, 100).reg(2, 201).stop(3).nowReg(1, 98).andNoMore();
        Scene.of(STAYS, 0063112).reg(1, 100).reg(2, 201).stop(3).nowReg(1, 102).andNoMore();
        Scene.of(STAYS, 0065112).reg(1, 100).reg(2, 201).stop(3).nowReg(1, 98).andNoMore();
        // MOVB (R1)+, (R2) beyond memory.
        Scene.of(STAYS, 0112112).reg(1, 100).reg(2, 4096).stop(4).nowReg(1, 101).andNoMore();
        // MOV (R1)+, (R1)+: both steps, as the second stops.
        Scene.of(STAYS, 0012121).reg(1, 4094).word(4094, 5).stop(4).nowReg(1, 4098).andNoMore();
        // MOV #5, (R2): R7 has gone behind the 5.
        Scene.of(STAYS, 0012712, 5).reg(2, 201).stop(3).nowReg(7, 4).andNoMore();
    }

    private static void stepsOfDestinationStay() {
        // CLR (R1)+ and CLR -(R1), CLRB (R1)+ and CLRB -(R1)
        Scene.of(STAYS, 0005021).reg(1, 4096).stop(4).nowReg(1, 4098).andNoMore();
        Scene.of(STAYS, 0005041).reg(1, 0).stop(4).nowReg(1, 65534).andNoMore();
        Scene.of(STAYS, 0105021).reg(1, 4096).stop(4).nowReg(1, 4097).andNoMore();
        Scene.of(STAYS, 0105041).reg(1, 0).stop(4).nowReg(1, 65535).andNoMore();
        // BIS R0, (R1)+ at an odd address
        Scene.of(STAYS, 0050021).reg(1, 101).word(100, 3).stop(3).nowReg(1, 103).andNoMore();
    }

    private static void stepsOfPointersStay() {
        // CLR @(R1)+ and CLR @-(R1), with an odd address in memory.
        Scene.of(STAYS, 0005031).reg(1, 100).word(100, 201).stop(3).nowReg(1, 102).andNoMore();
        Scene.of(STAYS, 0005051).reg(1, 102).word(100, 201).stop(3).nowReg(1, 100).andNoMore();
        // JMP @(R1)+ and JSR R5, @-(R1)
        Scene.of(STAYS, 0000131).reg(1, 4096).stop(4).nowReg(1, 4098).andNoMore();
        Scene.of(STAYS, 0004551).reg(1, 1).reg(6, 300).stop(3).nowReg(1, 65535).andNoMore();
    }

    private static void indexWordsStay() {
        // MOV 2(R1), 1(R2): both words are behind R7 when the second operand stops.
        Scene.of(STAYS, 0016162, 2, 1).reg(1, 100).reg(2, 100).stop(3).nowReg(7, 6).andNoMore();
        // MOV 1(R1), 2(R2): the second word is not taken, as the first operand stops.
        Scene.of(STAYS, 0016162, 1, 2).reg(1, 100).reg(2, 100).stop(3).nowReg(7, 4).andNoMore();
        // CLR x(R1) and CLR @x(R1) as memory's last word: x lies beyond.
        Scene.of(STAYS).program(4094, 0005061).reg(1, 100).stop(4).nowReg(7, 4098).andNoMore();
        Scene.of(STAYS).program(4094, 0005071).reg(1, 100).stop(4).nowReg(7, 4098).andNoMore();
        // MOV x(R1), y(R2) with x as memory's last word.
        Scene.of(STAYS).program(4092, 0016162, 0).reg(1, 100).reg(2, 100).stop(4).nowReg(7, 4098).andNoMore();
    }

    private static void stackStays() {
        // JSR R5, (R1)+: R1 and R6 have moved, R5 and R7 have not been changed.
        Scene.of(STAYS, 0004521).reg(1, 50).reg(5, 60).reg(6, 0).stop(4)
            .nowReg(1, 52).nowReg(6, 65534).andNoMore();
        Scene.of(STAYS, 0004567, 50).reg(5, 60).reg(6, 4098).stop(4).nowReg(6, 4096).nowReg(7, 4).andNoMore();
        // RTS R5: R7 and R6 have changed, R5 has not.
        Scene.of(STAYS, 0000205).reg(5, 60).reg(6, 4096).stop(4).nowReg(6, 4098).nowReg(7, 60).andNoMore();
        // RTS R6 at an odd address: R7 is what R6 was.
        Scene.of(STAYS, 0000206).reg(6, 101).stop(3).nowReg(6, 103).nowReg(7, 101).andNoMore();
        // RTS R7 beyond memory.
        Scene.of(STAYS, 0000207).reg(6, 4096).stop(4).nowReg(6, 4098).andNoMore();
    }

    private static void nothingAfterTheStop() {
        String sentence = STAYS + " (and what it had not done is not done)";
        // ADD (R1), (R2)+ whose source stops: neither R2 nor what is there nor a flag changes.
        Scene.of(sentence, 0061122).reg(1, 101).reg(2, 200).word(200, 9).flags(15).stop(3).andNoMore();
        // ADD (R1), R2 with the source beyond memory
        Scene.of(sentence, 0061102).reg(1, 4096).reg(2, 200).flags(10).stop(4).andNoMore();
        // MOV R2, (R1) at an odd address: the words there stay.
        Scene.of(sentence, 0010211).reg(1, 101).reg(2, 7).word(100, 0x1234).word(102, 0x5678).flags(5)
            .stop(3).andNoMore();
        // JMP 1(R1)'s index word beyond memory: R7 does not go there.
        Scene.of(sentence).program(4094, 0000161).reg(1, 100).stop(4).nowReg(7, 4098).andNoMore();
    }

    private static void firstReasonCounts() {
        String sentence = "STOPS: the first that an instruction meets is the reason";
        // MOV (R1), (R2): the source is beyond memory, the destination odd; and the other way round.
        Scene.of(sentence, 0011112).reg(1, 4096).reg(2, 101).stop(4).andNoMore();
        Scene.of(sentence, 0011112).reg(1, 101).reg(2, 4096).stop(3).andNoMore();
        // JSR R5, @(R1)+ beyond memory with an odd stack
        Scene.of(sentence, 0004531).reg(1, 4096).reg(6, 101).stop(4).nowReg(1, 4098).andNoMore();
        // JMP R1 with an odd R1: there is no such instruction.
        Scene.of(sentence, 0000101).reg(1, 101).stop(2).andNoMore();
    }
}
