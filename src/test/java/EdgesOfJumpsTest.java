/** The edges of JMP, JSR and RTS. */
public final class EdgesOfJumpsTest {
    public static void main(String[] args) {
        takesOneLess();
        nothingIsReadThere();
        modeZeroIsRefused();
        stepsAreThoseOfWords();
        jmp();
        jsrOnTheStack();
        jsrOfEveryRegister();
        jsrWithTheStackAsDestination();
        jsrStops();
        rts();
        rtsOfSixAndSeven();
        rtsStops();
        Check.end();
    }

    private static void takesOneLess() {
        String sentence = "the address of the destination as above, which takes 1 microcycle less";
        int[] took = {0, 1, 1, 2, 2, 3, 3, 4};
        int[] targets = {0, 200, 200, 302, 198, 300, 210, 306};
        int[] pointers = {0, 200, 202, 202, 198, 198, 200, 200};
        for (int mode = 1; mode < 8; mode++) {
            int behind = mode >= 6 ? 4 : 2;
            // JMP and JSR R5 by a mode of R1
            room(sentence, 0000101 | mode << 3).flags(15).step(2 + took[mode] + 1)
                .nowReg(1, pointers[mode]).nowReg(7, targets[mode]).andNoMore();
            room(sentence, 0004501 | mode << 3).flags(15).step(2 + took[mode] + 6)
                .nowReg(1, pointers[mode]).nowReg(5, behind).nowReg(6, 398).nowReg(7, targets[mode])
                .nowWord(398, 500).andNoMore();
        }
    }

    private static Scene room(String sentence, int word) {
        return Scene.of(sentence, word, 10).reg(1, 200).reg(5, 500).reg(6, 400)
            .word(198, 300).word(200, 302).word(210, 306);
    }

    private static void nothingIsReadThere() {
        String sentence = "as nothing is read there (it may be any";
        int[] targets = {0, 1, 4094, 4095, 4096, 4097, 32768, 65534, 65535};
        for (int target : targets) {
            // JMP and JSR R5 by modes 1, 2, 3 and 4: it is the next fetch that stops.
            Scene.of(sentence, 0000111).reg(1, target).step(4).nowReg(7, target).andNoMore();
            Scene.of(sentence, 0000121).reg(1, target).step(4)
                .nowReg(1, target + 2 & 0xFFFF).nowReg(7, target).andNoMore();
            Scene.of(sentence, 0000137, target).step(5).nowReg(7, target).andNoMore();
            Scene.of(sentence, 0000141).reg(1, target + 2 & 0xFFFF).step(5)
                .nowReg(1, target).nowReg(7, target).andNoMore();
            Scene.of(sentence, 0000161, target).reg(1, 0).step(6).nowReg(7, target).andNoMore();
            Scene.of(sentence, 0004511).reg(1, target).reg(5, 77).reg(6, 400).step(9)
                .nowReg(5, 2).nowReg(6, 398).nowReg(7, target).nowWord(398, 77).andNoMore();
        }
        Scene.of(sentence, 0000111).reg(1, 4095).step(4).nowReg(7, 4095).andNoMore()
            .stop(3).nowReg(7, 4097).andNoMore();
        Scene.of(sentence, 0000111).reg(1, 4096).step(4).nowReg(7, 4096).andNoMore()
            .stop(4).nowReg(7, 4098).andNoMore();
    }

    private static void modeZeroIsRefused() {
        String sentence = "mode 0 is stop 2, with nothing done but the fetch)";
        for (int r = 0; r < 8; r++) {
            Scene.of(sentence).program(100, 0000100 | r).reg(5, 500).reg(6, 400).flags(15).stop(2).andNoMore();
            for (int link = 0; link < 8; link++) {
                Scene.of(sentence).program(100, 0004000 | link << 6 | r).reg(5, 500).reg(6, 400).word(398, 7)
                    .flags(15).stop(2).andNoMore();
            }
        }
        // Nor is the stack looked at.
        Scene.of(sentence, 0004501).reg(6, 1).stop(2).andNoMore();
    }

    private static void stepsAreThoseOfWords() {
        String sentence = "the address of the destination as above (with a STEP of 2)";
        for (int r = 0; r < 7; r++) {
            Scene.of(sentence, 0000120 | r).reg(r, 201).step(4).nowReg(r, 203).nowReg(7, 201).andNoMore();
            Scene.of(sentence, 0000140 | r).reg(r, 201).step(5).nowReg(r, 199).nowReg(7, 199).andNoMore();
        }
    }

    private static void jmp() {
        String sentence = "JMP: R7 is it (1).";
        // JMP (R7), JMP (R7)+ and JMP -(R7): R7 is the address, not what it stepped to.
        Scene.of(sentence).program(100, 0000117).step(4).nowReg(7, 102).andNoMore();
        Scene.of(sentence).program(100, 0000127).step(4).nowReg(7, 102).andNoMore();
        Scene.of(sentence).program(100, 0000147).step(5).nowReg(7, 100).andNoMore();
        // JMP -4(R7) to itself, and JMP @-2(R7) to what its own index says.
        Scene.of(sentence).program(100, 0000167, 65532).step(6).nowReg(7, 100).andNoMore();
        Scene.of(sentence).program(100, 0000177, 65534).step(7).nowReg(7, 65534).andNoMore();
    }

    private static void jsrOnTheStack() {
        String sentence = "JSR: R6 becomes R6 - 2, R comes to the word at the address R6";
        Scene.of(sentence).program(100, 0004511).reg(1, 200).reg(5, 65535).reg(6, 4096).flags(15).step(9)
            .nowReg(5, 102).nowReg(6, 4094).nowReg(7, 200).nowWord(4094, 65535).andNoMore();
        Scene.of(sentence).program(100, 0004511).reg(1, 200).reg(5, 65535).reg(6, 2).flags(0).step(9)
            .nowReg(5, 102).nowReg(6, 0).nowReg(7, 200).nowWord(0, 65535).andNoMore();
    }

    private static void jsrOfEveryRegister() {
        String sentence = "R becomes R7, R7 the address (6).";
        for (int r = 0; r < 6; r++) {
            int other = (r + 1) % 6;
            Scene.of(sentence, 0004010 | r << 6 | other).reg(other, 200).reg(r, 77).reg(6, 400).step(9)
                .nowReg(r, 2).nowReg(6, 398).nowReg(7, 200).nowWord(398, 77).andNoMore();
            // Its own register is the destination: the address is found before it changes.
            Scene.of(sentence, 0004010 | r << 6 | r).reg(r, 200).reg(6, 400).step(9)
                .nowReg(r, 2).nowReg(6, 398).nowReg(7, 200).nowWord(398, 200).andNoMore();
        }
        // JSR R7: R7 comes to the stack, behind the index too.
        Scene.of(sentence, 0004711).reg(1, 200).reg(6, 400).step(9)
            .nowReg(6, 398).nowReg(7, 200).nowWord(398, 2).andNoMore();
        Scene.of(sentence, 0004767, 100).reg(6, 400).step(11)
            .nowReg(6, 398).nowReg(7, 104).nowWord(398, 4).andNoMore();
        // JSR R6: R6 as it is then comes to the stack.
        Scene.of(sentence, 0004611).reg(1, 200).reg(6, 400).step(9)
            .nowReg(6, 2).nowReg(7, 200).nowWord(398, 398).andNoMore();
    }

    private static void jsrWithTheStackAsDestination() {
        String sentence = "JSR: the address of the destination, then R6 becomes R6 - 2";
        // JSR R5, (R6), JSR R5, (R6)+, JSR R5, -(R6)
        Scene.of(sentence, 0004516).reg(5, 77).reg(6, 400).step(9)
            .nowReg(5, 2).nowReg(6, 398).nowReg(7, 400).nowWord(398, 77).andNoMore();
        Scene.of(sentence, 0004526).reg(5, 77).reg(6, 400).step(9)
            .nowReg(5, 2).nowReg(7, 400).nowWord(400, 77).andNoMore();
        Scene.of(sentence, 0004546).reg(5, 77).reg(6, 400).step(10)
            .nowReg(5, 2).nowReg(6, 396).nowReg(7, 398).nowWord(396, 77).andNoMore();
        // JSR R7, @(R6)+ changes places with what is on the stack.
        Scene.of(sentence, 0004736).reg(6, 400).word(400, 200).step(10)
            .nowReg(7, 200).nowWord(400, 2).andNoMore();
    }

    private static void jsrStops() {
        String sentence = "JSR: R6 becomes R6 - 2, R comes to the word at the address R6 (which may not be there)";
        int[] stacks = {0, 1, 3, 4097, 4098, 4099, 65535};
        int[] stops = {4, 3, 3, 3, 4, 3, 3};
        for (int i = 0; i < stacks.length; i++) {
            Scene.of(sentence, 0004521).reg(1, 200).reg(5, 77).reg(6, stacks[i]).flags(15).stop(stops[i])
                .nowReg(1, 202).nowReg(6, stacks[i] - 2 & 0xFFFF).andNoMore();
        }
    }

    private static void rts() {
        String sentence = "RTS: R7 becomes R, then R6 becomes R6 + 2, then R the word that R6 was the address of (3).";
        int[] targets = {0, 1, 4094, 4095, 4096, 65535};
        for (int target : targets) {
            for (int r = 0; r < 6; r++) {
                Scene.of(sentence, 0000200 | r).reg(r, target).reg(6, 4094).word(4094, 65535).flags(15).step(5)
                    .nowReg(r, 65535).nowReg(6, 4096).nowReg(7, target).andNoMore();
            }
        }
        // The stack at memory's start.
        Scene.of(sentence).program(100, 0000205).reg(5, 50).reg(6, 0).word(0, 9).step(5)
            .nowReg(5, 9).nowReg(6, 2).nowReg(7, 50).andNoMore();
    }

    private static void rtsOfSixAndSeven() {
        String sentence = "RTS: R7 becomes R, then R6 becomes R6 + 2, then R the word (of R6, of R7)";
        Scene.of(sentence, 0000206).reg(6, 400).word(400, 9).step(5).nowReg(6, 9).nowReg(7, 400).andNoMore();
        Scene.of(sentence, 0000207).reg(6, 400).word(400, 9).step(5).nowReg(6, 402).nowReg(7, 9).andNoMore();
    }

    private static void rtsStops() {
        String sentence = "RTS: then R the word at the address that R6 was before (which may not be there)";
        int[] stacks = {1, 4095, 4096, 4097, 65534, 65535};
        int[] stops = {3, 3, 4, 3, 4, 3};
        for (int i = 0; i < stacks.length; i++) {
            Scene.of(sentence, 0000205).reg(5, 77).reg(6, stacks[i]).flags(15).stop(stops[i])
                .nowReg(6, stacks[i] + 2 & 0xFFFF).nowReg(7, 77).andNoMore();
        }
    }
}
