/** The edges of BRANCHES, of SOB and of the flags' instructions. */
public final class EdgesOfBranchesTest {
    private static final String SOB = "077Rnn SOB: R becomes R - 1, flags stay (1), R is tested (1)";

    public static void main(String[] args) {
        hasItsSign();
        goesBeyond();
        takesOneMoreIfItIsSo();
        sobCounts();
        sobGoesBack();
        sobOfSeven();
        flagsFirstAndLast();
        Check.end();
    }

    private static void hasItsSign() {
        String sentence = "the low byte is k, with its sign: R7 becomes R7 + 2 * k";
        int[] k = {0, 1, 126, 127, 128, 129, 254, 255};
        int[] next = {1002, 1004, 1254, 1256, 746, 748, 998, 1000};
        for (int i = 0; i < k.length; i++) {
            Scene.of(sentence).program(1000, 0x0100 | k[i]).flags(15).step(4).nowReg(7, next[i]).andNoMore();
            // The last, 87: C 1
            Scene.of(sentence).program(1000, 0x8700 | k[i]).flags(1).step(4).nowReg(7, next[i]).andNoMore();
        }
    }

    private static void goesBeyond() {
        String sentence = "R7 becomes R7 + 2 * k (and sums run over)";
        Scene.of(sentence, 0x01FE).step(4).nowReg(7, 65534).andNoMore().stop(4).nowReg(7, 0).andNoMore();
        Scene.of(sentence, 0x0180).step(4).nowReg(7, 65282).andNoMore().stop(4).andNoMore();
        Scene.of(sentence).program(4094, 0x017F).step(4).nowReg(7, 4350).andNoMore().stop(4).andNoMore();
        // To itself, over and over.
        Scene.of(sentence).program(4094, 0x01FF).step(4).nowReg(7, 4094).andNoMore()
            .step(4).nowReg(7, 4094).andNoMore();
    }

    private static void takesOneMoreIfItIsSo() {
        // Which flags are so, one bit for each of the 16: bit f is the flags f.
        int[] codes = {0x01, 0x02, 0x03, 0x04, 0x05, 0x06, 0x07, 0x80, 0x81, 0x82, 0x83, 0x84, 0x85, 0x86, 0x87};
        int[] so = {
            0xFFFF, 0x0F0F, 0xF0F0, 0xCC33, 0x33CC, 0x0C03, 0xF3FC, 0x00FF, 0xFF00, 0x0505, 0xFAFA,
            0x3333, 0xCCCC, 0x5555, 0xAAAA,
        };
        for (int i = 0; i < codes.length; i++) {
            String sentence = "BRANCHES: " + Integer.toHexString(codes[i]) + ": 1 microcycle; if it is so 1 more";
            for (int flags = 0; flags < 16; flags++) {
                Scene scene = Scene.of(sentence).program(1000, codes[i] << 8 | 0x05).flags(flags);
                if ((so[i] >> flags & 1) == 1) {
                    scene.step(4).nowReg(7, 1012).andNoMore();
                } else {
                    scene.step(3).andNoMore();
                }
            }
        }
    }

    private static void sobCounts() {
        String sentence = SOB + "; if it is not 0 1 more";
        for (int r = 0; r < 7; r++) {
            for (int flags = 0; flags < 16; flags++) {
                int word = 0077003 | r << 6;
                Scene.of(sentence).program(1000, word).reg(r, 1).flags(flags).step(4).nowReg(r, 0).andNoMore();
                Scene.of(sentence).program(1000, word).reg(r, 2).flags(flags).step(5)
                    .nowReg(r, 1).nowReg(7, 996).andNoMore();
                Scene.of(sentence).program(1000, word).reg(r, 0).flags(flags).step(5)
                    .nowReg(r, 65535).nowReg(7, 996).andNoMore();
                Scene.of(sentence).program(1000, word).reg(r, 0x0100).flags(flags).step(5)
                    .nowReg(r, 0x00FF).nowReg(7, 996).andNoMore();
                Scene.of(sentence).program(1000, word).reg(r, 0x8000).flags(flags).step(5)
                    .nowReg(r, 0x7FFF).nowReg(7, 996).andNoMore();
                Scene.of(sentence).program(1000, word).reg(r, 0x8001).flags(flags).step(5)
                    .nowReg(r, 0x8000).nowReg(7, 996).andNoMore();
            }
        }
    }

    private static void sobGoesBack() {
        String sentence = "R7 becomes R7 - 2 * nn (octal)";
        int[] nn = {000, 001, 007, 010, 077};
        int[] next = {1002, 1000, 988, 986, 876};
        for (int i = 0; i < nn.length; i++) {
            Scene.of(sentence).program(1000, 0077100 | nn[i]).reg(1, 5).step(5)
                .nowReg(1, 4).nowReg(7, next[i]).andNoMore();
        }
        // Below 0 it runs over; with nn 1 it does itself again.
        Scene.of(sentence, 0077102).reg(1, 5).step(5).nowReg(1, 4).nowReg(7, 65534).andNoMore();
        Scene.of(sentence, 0077101).reg(1, 2).step(5).nowReg(1, 1).nowReg(7, 0).andNoMore()
            .step(4).nowReg(1, 0).andNoMore();
    }

    private static void sobOfSeven() {
        String sentence = SOB + " (of R7)";
        Scene.of(sentence).program(100, 0077700).step(5).nowReg(7, 101).andNoMore().stop(3).andNoMore();
        Scene.of(sentence).program(100, 0077703).step(5).nowReg(7, 95).andNoMore();
    }

    private static void flagsFirstAndLast() {
        String sentence = "000240 .. 000277: of the flags that the low four bits name all become what bit 4 is (1).";
        for (int before = 0; before < 16; before++) {
            Scene.of(sentence, 0000237).flags(before).stop(2).andNoMore();
            Scene.of(sentence, 0000240).flags(before).step(3).andNoMore();
            Scene.of(sentence, 0000257).flags(before).step(3).nowFlags(0).andNoMore();
            Scene.of(sentence, 0000260).flags(before).step(3).andNoMore();
            Scene.of(sentence, 0000277).flags(before).step(3).nowFlags(15).andNoMore();
            for (int bit = 1; bit < 16; bit *= 2) {
                Scene.of(sentence, 0000240 | bit).flags(before).step(3).nowFlags(before & ~bit).andNoMore();
                Scene.of(sentence, 0000260 | bit).flags(before).step(3).nowFlags(before | bit).andNoMore();
            }
        }
    }
}
