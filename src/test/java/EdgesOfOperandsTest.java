/** The edges of the eight modes, in the document's order. */
public final class EdgesOfOperandsTest {
    public static void main(String[] args) {
        stepIsTwoOfWords();
        stepIsOneOfBytes();
        modeZero();
        modeOne();
        modeTwo();
        modeThree();
        modeFour();
        modeFive();
        modeSix();
        modeSixAddsWhatIsNow();
        modeSeven();
        destinationIsRead();
        wordsNeedEvenAddresses();
        bytesDoNot();
        Check.end();
    }

    private static void stepIsTwoOfWords() {
        String sentence = "with a STEP of 2";
        for (int r = 0; r < 7; r++) {
            // TST (r)+ and TST -(r)
            Scene.of(sentence, 0005720 | r).reg(r, 200).word(200, 5).step(5).nowReg(r, 202).andNoMore();
            Scene.of(sentence, 0005740 | r).reg(r, 202).word(200, 5).step(6).nowReg(r, 200).andNoMore();
        }
        Scene.of(sentence, 0005727, 5).step(5).nowReg(7, 4).andNoMore();
        // TST -(R7) reads itself, 005747, over and over.
        Scene.of(sentence).program(100, 0005747).step(6).nowReg(7, 100).andNoMore()
            .step(6).nowReg(7, 100).andNoMore();
    }

    private static void stepIsOneOfBytes() {
        String sentence = "but of bytes 1 if r is not 6 or 7";
        for (int r = 0; r < 6; r++) {
            // TSTB (r)+ and TSTB -(r)
            Scene.of(sentence, 0105720 | r).reg(r, 200).word(200, 0x0080).step(5)
                .nowReg(r, 201).nowFlags(8).andNoMore();
            Scene.of(sentence, 0105740 | r).reg(r, 202).word(200, 0x8001).step(6)
                .nowReg(r, 201).nowFlags(8).andNoMore();
        }
        Scene.of(sentence, 0105726).reg(6, 200).word(200, 0x0080).step(5).nowReg(6, 202).nowFlags(8).andNoMore();
        Scene.of(sentence, 0105746).reg(6, 202).word(200, 0x0080).step(6).nowReg(6, 200).nowFlags(8).andNoMore();
        Scene.of(sentence, 0105727, 0x0080).step(5).nowReg(7, 4).nowFlags(8).andNoMore();
        // TSTB -(R7) reads its own low byte, 347.
        Scene.of(sentence).program(100, 0105747).step(6).nowReg(7, 100).nowFlags(8).andNoMore();
        // The same of a source: BISB (R6)+, R0, BISB (R5)+, R0, BISB -(R6), R0, BISB #x, R0
        Scene.of(sentence, 0152600).reg(6, 200).word(200, 0x1107).step(7).nowReg(0, 7).nowReg(6, 202).andNoMore();
        Scene.of(sentence, 0152500).reg(5, 200).word(200, 0x1107).step(7).nowReg(0, 7).nowReg(5, 201).andNoMore();
        Scene.of(sentence, 0154600).reg(6, 202).word(200, 0x1107).step(8).nowReg(0, 7).nowReg(6, 200).andNoMore();
        Scene.of(sentence, 0152700, 0x1107).step(7).nowReg(0, 7).nowReg(7, 4).andNoMore();
        // R6 may be odd, as bytes do not need even addresses: it stays so.
        Scene.of(sentence, 0105726).reg(6, 201).word(200, 0x8000).step(5).nowReg(6, 203).nowFlags(8).andNoMore();
        Scene.of(sentence, 0105746).reg(6, 1).stop(4).nowReg(6, 65535).andNoMore();
    }

    private static void modeZero() {
        String sentence = "0: r itself, of bytes its low byte (1 microcycle)";
        for (int r = 0; r < 7; r++) {
            // TST r and TSTB r: any number is good, as it is no address.
            Scene.of(sentence, 0005700 | r).reg(r, 65535).step(4).nowFlags(8).andNoMore();
            Scene.of(sentence, 0105700 | r).reg(r, 0xFF00).step(4).nowFlags(4).andNoMore();
            Scene.of(sentence, 0105700 | r).reg(r, 0x0080).step(4).nowFlags(8).andNoMore();
        }
        // TSTB R7 with R7 256 and 258, whose low bytes are 0 and 2; BISB R1, R0 takes no high byte.
        Scene.of(sentence).program(254, 0105707).step(4).nowFlags(4).andNoMore();
        Scene.of(sentence).program(256, 0105707).step(4).nowFlags(0).andNoMore();
        Scene.of(sentence, 0150100).reg(1, 0x7F01).step(6).nowReg(0, 1).andNoMore();
    }

    private static void modeOne() {
        String sentence = "1: at the address r (2)";
        int[] addresses = {0, 2, 4092, 4094};
        for (int address : addresses) {
            // TST (R1), TSTB (R1)
            Scene.of(sentence).program(100, 0005711).reg(1, address).word(address, 0x8000).step(5)
                .nowFlags(8).andNoMore();
            Scene.of(sentence).program(100, 0105711).reg(1, address + 1).word(address, 0x8000).step(5)
                .nowFlags(8).andNoMore();
        }
        // TST (R7) reads the next instruction, which is done then.
        Scene.of(sentence, 0005717, 0x80FF).step(5).nowFlags(8).andNoMore().step(3).andNoMore();
    }

    private static void modeTwo() {
        String sentence = "2: at the address r, but first r becomes r + STEP (2)";
        // BIS (R1)+, R0: the word at R1 as it was, up to memory's last.
        Scene.of(sentence, 0052100).reg(1, 200).word(200, 7).word(202, 9).step(7)
            .nowReg(0, 7).nowReg(1, 202).andNoMore();
        Scene.of(sentence, 0052100).reg(1, 4094).word(4094, 7).step(7).nowReg(0, 7).nowReg(1, 4096).andNoMore();
        Scene.of(sentence, 0152100).reg(1, 4095).word(4094, 0x0700).step(7)
            .nowReg(0, 7).nowReg(1, 4096).andNoMore();
        // r has gone on when the word is not there, and runs over.
        Scene.of(sentence, 0052100).reg(1, 4096).stop(4).nowReg(1, 4098).andNoMore();
        Scene.of(sentence, 0052100).reg(1, 65534).stop(4).nowReg(1, 0).andNoMore();
        Scene.of(sentence, 0052100).reg(1, 65535).stop(3).nowReg(1, 1).andNoMore();
        Scene.of(sentence, 0152100).reg(1, 65535).stop(4).nowReg(1, 0).andNoMore();
        Scene.of(sentence, 0152600).reg(6, 65535).stop(4).nowReg(6, 1).andNoMore();
        // MOV (R1)+, R1: what is put comes after the step. MOV #9, R7: so it does there.
        Scene.of(sentence, 0012101).reg(1, 200).word(200, 7).step(7).nowReg(1, 7).andNoMore();
        Scene.of(sentence, 0012707, 9).step(7).nowReg(7, 9).andNoMore();
        // TST (R7)+ as memory's last word: the word behind it is not there.
        Scene.of(sentence).program(4094, 0005727).stop(4).nowReg(7, 4098).andNoMore();
        Scene.of(sentence).program(4092, 0005727, 5).step(5).nowReg(7, 4096).andNoMore();
    }

    private static void modeThree() {
        String sentence = "3: as 2 with a STEP of 2, but there stands the address, a word (3)";
        for (int r = 0; r < 7; r++) {
            // TST @(r)+ and TSTB @(r)+
            Scene.of(sentence, 0005730 | r).reg(r, 4094).word(4094, 200).word(200, 0x8000).step(6)
                .nowReg(r, 4096).nowFlags(8).andNoMore();
            Scene.of(sentence, 0105730 | r).reg(r, 4094).word(4094, 201).word(200, 0x8000).step(6)
                .nowReg(r, 4096).nowFlags(8).andNoMore();
        }
        // TST @#4094, TSTB @#4095, TST @#0
        Scene.of(sentence, 0005737, 4094).word(4094, 0x8000).step(6).nowReg(7, 4).nowFlags(8).andNoMore();
        Scene.of(sentence, 0105737, 4095).word(4094, 0x8000).step(6).nowReg(7, 4).nowFlags(8).andNoMore();
        Scene.of(sentence, 0005737, 0).flags(15).step(6).nowReg(7, 4).nowFlags(0).andNoMore();
        // An address at an odd address, of bytes too, or beyond memory; r has gone on by 2.
        Scene.of(sentence, 0105731).reg(1, 101).word(100, 200).stop(3).nowReg(1, 103).andNoMore();
        Scene.of(sentence, 0105731).reg(1, 4096).stop(4).nowReg(1, 4098).andNoMore();
        Scene.of(sentence, 0105731).reg(1, 65534).stop(4).nowReg(1, 0).andNoMore();
        Scene.of(sentence, 0105731).reg(1, 65535).stop(3).nowReg(1, 1).andNoMore();
        // An address that leads nowhere.
        Scene.of(sentence, 0005737, 4095).stop(3).nowReg(7, 4).andNoMore();
        Scene.of(sentence, 0005737, 4096).stop(4).nowReg(7, 4).andNoMore();
        Scene.of(sentence, 0105737, 4096).stop(4).nowReg(7, 4).andNoMore();
    }

    private static void modeFour() {
        String sentence = "4: r becomes r - STEP, then at the address r (3)";
        // BIS -(R1), R0 and BISB -(R1), R0 from the end of memory, and to its start.
        Scene.of(sentence, 0054100).reg(1, 4096).word(4094, 7).step(8).nowReg(0, 7).nowReg(1, 4094).andNoMore();
        Scene.of(sentence, 0154100).reg(1, 4096).word(4094, 0x0709).step(8)
            .nowReg(0, 7).nowReg(1, 4095).andNoMore();
        Scene.of(sentence).program(100, 0054100).reg(1, 2).word(0, 7).step(8)
            .nowReg(0, 7).nowReg(1, 0).andNoMore();
        Scene.of(sentence).program(100, 0154100).reg(1, 1).word(0, 7).step(8)
            .nowReg(0, 7).nowReg(1, 0).andNoMore();
        // Below 0 it runs over.
        Scene.of(sentence, 0054100).reg(1, 0).stop(4).nowReg(1, 65534).andNoMore();
        Scene.of(sentence, 0054100).reg(1, 1).stop(3).nowReg(1, 65535).andNoMore();
        Scene.of(sentence, 0154100).reg(1, 0).stop(4).nowReg(1, 65535).andNoMore();
        Scene.of(sentence, 0154600).reg(6, 0).stop(4).nowReg(6, 65534).andNoMore();
        Scene.of(sentence, 0054100).reg(1, 4098).stop(4).nowReg(1, 4096).andNoMore();
        // BIS -(R7), R0 is itself what it reads.
        Scene.of(sentence).program(100, 0054700).step(8).nowReg(0, 0054700).nowReg(7, 100).andNoMore();
    }

    private static void modeFive() {
        String sentence = "5: as 4 with a STEP of 2, but there stands the address (4)";
        for (int r = 0; r < 7; r++) {
            // TST @-(r) and TSTB @-(r)
            Scene.of(sentence, 0005750 | r).reg(r, 4096).word(4094, 200).word(200, 0x8000).step(7)
                .nowReg(r, 4094).nowFlags(8).andNoMore();
            Scene.of(sentence, 0105750 | r).reg(r, 4096).word(4094, 201).word(200, 0x8000).step(7)
                .nowReg(r, 4094).nowFlags(8).andNoMore();
        }
        Scene.of(sentence, 0105751).reg(1, 0).stop(4).nowReg(1, 65534).andNoMore();
        Scene.of(sentence, 0105751).reg(1, 1).stop(3).nowReg(1, 65535).andNoMore();
        Scene.of(sentence, 0105751).reg(1, 103).word(100, 200).stop(3).nowReg(1, 101).andNoMore();
        Scene.of(sentence, 0005751).reg(1, 102).word(100, 4095).stop(3).nowReg(1, 100).andNoMore();
        Scene.of(sentence, 0105751).reg(1, 102).word(100, 4095).step(7).nowReg(1, 100).nowFlags(4).andNoMore();
        // TST @-(R7) takes itself, 005757, 3055, as the address; TSTB @-(R7), 105757, lies beyond.
        Scene.of(sentence).program(100, 0005757).stop(3).nowReg(7, 100).andNoMore();
        Scene.of(sentence).program(100, 0105757).stop(4).nowReg(7, 100).andNoMore();
    }

    private static void modeSix() {
        String sentence = "6: R7 becomes R7 + 2, the word there is read, and with r added it is the address (4)";
        for (int r = 0; r < 7; r++) {
            // TST 4000(r) and TSTB 4001(r): r stays.
            Scene.of(sentence, 0005760 | r, 4000).reg(r, 94).word(4094, 0x8000).step(7)
                .nowReg(7, 4).nowFlags(8).andNoMore();
            Scene.of(sentence, 0105760 | r, 4001).reg(r, 94).word(4094, 0x8000).step(7)
                .nowReg(7, 4).nowFlags(8).andNoMore();
        }
        // The sum at memory's start, at its end, beyond it and odd.
        Scene.of(sentence).program(100, 0005761, 65532).reg(1, 4).word(0, 0x8000).step(7)
            .nowReg(7, 104).nowFlags(8).andNoMore();
        Scene.of(sentence, 0005761, 4000).reg(1, 96).stop(4).nowReg(7, 4).andNoMore();
        Scene.of(sentence, 0005761, 4000).reg(1, 95).stop(3).nowReg(7, 4).andNoMore();
        Scene.of(sentence, 0105761, 4000).reg(1, 95).step(7).nowReg(7, 4).nowFlags(4).andNoMore();
        Scene.of(sentence, 0105761, 4000).reg(1, 96).stop(4).nowReg(7, 4).andNoMore();
        Scene.of(sentence, 0005761, 65535).reg(1, 65535).stop(4).nowReg(7, 4).andNoMore();
        // Two odd numbers make an even address.
        Scene.of(sentence, 0005761, 101).reg(1, 99).word(200, 0x8000).step(7).nowReg(7, 4).nowFlags(8).andNoMore();
        // The index as memory's last word, and behind it.
        Scene.of(sentence).program(4092, 0005761, 100).reg(1, 100).word(200, 0x8000).step(7)
            .nowReg(7, 4096).nowFlags(8).andNoMore();
        Scene.of(sentence).program(4094, 0005761).reg(1, 100).stop(4).nowReg(7, 4098).andNoMore();
    }

    private static void modeSixAddsWhatIsNow() {
        String sentence = "with r (as it is now) added";
        // TST 6(R7): R7 is 4 then.
        Scene.of(sentence, 0005767, 6, 0, 0, 0, 0x8000).step(7).nowReg(7, 4).nowFlags(8).andNoMore();
        // TST @6(R7)
        Scene.of(sentence, 0005777, 6, 0, 0, 0, 200).word(200, 0x8000).step(8).nowReg(7, 4).nowFlags(8).andNoMore();
        // TST -4(R7) reads itself, TST -2(R7) its index.
        Scene.of(sentence).program(100, 0005767, -4 & 0xFFFF).flags(15).step(7).nowReg(7, 104).nowFlags(0).andNoMore();
        Scene.of(sentence).program(100, 0005767, -2 & 0xFFFF).step(7).nowReg(7, 104).nowFlags(8).andNoMore();
        // BIS (R1)+, 4(R1): R1 has gone on when it is added.
        Scene.of(sentence, 0052161, 4).reg(1, 200).word(200, 7).word(206, 8).step(10)
            .nowReg(1, 202).nowReg(7, 4).nowWord(206, 15).andNoMore();
    }

    private static void modeSeven() {
        String sentence = "7: as 6, but there stands the address (5)";
        for (int r = 0; r < 7; r++) {
            // TST @4000(r) and TSTB @4000(r)
            Scene.of(sentence, 0005770 | r, 4000).reg(r, 94).word(4094, 200).word(200, 0x8000).step(8)
                .nowReg(7, 4).nowFlags(8).andNoMore();
            Scene.of(sentence, 0105770 | r, 4000).reg(r, 94).word(4094, 201).word(200, 0x8000).step(8)
                .nowReg(7, 4).nowFlags(8).andNoMore();
        }
        // The address stands beyond memory, or at an odd address, of bytes too.
        Scene.of(sentence, 0105771, 4000).reg(1, 96).stop(4).nowReg(7, 4).andNoMore();
        Scene.of(sentence, 0105771, 4000).reg(1, 95).stop(3).nowReg(7, 4).andNoMore();
        // The address leads beyond memory, or to an odd address.
        Scene.of(sentence, 0005771, 0).reg(1, 200).word(200, 4096).stop(4).nowReg(7, 4).andNoMore();
        Scene.of(sentence, 0005771, 0).reg(1, 200).word(200, 4095).stop(3).nowReg(7, 4).andNoMore();
        Scene.of(sentence, 0105771, 0).reg(1, 200).word(200, 4095).step(8).nowReg(7, 4).nowFlags(4).andNoMore();
        Scene.of(sentence, 0105771, 0).reg(1, 200).word(200, 4096).stop(4).nowReg(7, 4).andNoMore();
    }

    private static void destinationIsRead() {
        String sentence = "A destination is read, too, also by MOV and CLR.";
        // MOV R0, (R1) and CLR (R1): odd, beyond memory, and the microcycles of one that goes.
        Scene.of(sentence, 0010011).reg(0, 5).reg(1, 101).word(100, 9).flags(15).stop(3).andNoMore();
        Scene.of(sentence, 0010011).reg(0, 5).reg(1, 4096).flags(15).stop(4).andNoMore();
        Scene.of(sentence, 0010011).reg(0, 5).reg(1, 100).word(100, 9).flags(15).step(7)
            .nowWord(100, 5).nowFlags(1).andNoMore();
        Scene.of(sentence, 0005011).reg(1, 101).word(100, 9).flags(15).stop(3).andNoMore();
        Scene.of(sentence, 0005011).reg(1, 4096).flags(15).stop(4).andNoMore();
        Scene.of(sentence, 0005011).reg(1, 100).word(100, 9).flags(15).step(6)
            .nowWord(100, 0).nowFlags(4).andNoMore();
        // MOVB R0, (R1) and CLRB (R1) beyond memory.
        Scene.of(sentence, 0110011).reg(0, 5).reg(1, 4096).flags(15).stop(4).andNoMore();
        Scene.of(sentence, 0105011).reg(1, 4097).flags(15).stop(4).andNoMore();
    }

    private static void wordsNeedEvenAddresses() {
        String sentence = "Words need even addresses";
        for (int code = 050; code <= 063; code++) {
            Scene.of(sentence, code << 6 | 011).reg(1, 1).flags(10).stop(3).andNoMore();
            Scene.of(sentence, code << 6 | 011).reg(1, 4095).flags(10).stop(3).andNoMore();
        }
        for (int top = 1; top <= 6; top++) {
            // (R1), R2 and R2, (R1)
            Scene.of(sentence, top << 12 | 0001102).reg(1, 1).flags(10).stop(3).andNoMore();
            Scene.of(sentence, top << 12 | 0000211).reg(1, 4095).flags(10).stop(3).andNoMore();
        }
    }

    private static void bytesDoNot() {
        String sentence = "bytes do not.";
        int[] addresses = {1, 4095};
        for (int address : addresses) {
            int word = address - 1;
            // TSTB of modes 1, 2, 4, 6 of R1
            Scene.of(sentence).program(100, 0105711).reg(1, address).word(word, 0x8000).step(5)
                .nowFlags(8).andNoMore();
            Scene.of(sentence).program(100, 0105721).reg(1, address).word(word, 0x8000).step(5)
                .nowReg(1, address + 1).nowFlags(8).andNoMore();
            Scene.of(sentence).program(100, 0105741).reg(1, address + 1).word(word, 0x8000).step(6)
                .nowReg(1, address).nowFlags(8).andNoMore();
            Scene.of(sentence).program(100, 0105761, 0).reg(1, address).word(word, 0x8000).step(7)
                .nowReg(7, 104).nowFlags(8).andNoMore();
            // CMPB (R1), R2 and MOVB R2, (R1)
            Scene.of(sentence).program(100, 0121102).reg(1, address).reg(2, 0x80).word(word, 0x8000).step(6)
                .nowFlags(4).andNoMore();
            Scene.of(sentence).program(100, 0110211).reg(1, address).reg(2, 0x44).word(word, 0x8011).step(7)
                .nowWord(word, 0x4411).andNoMore();
        }
    }
}
