/** Promise 7: branches and SOB. */
public final class Promise07BranchesTest {
    public static void main(String[] args) {
        for (int flags = 0; flags < 16; flags++) {
            boolean n = (flags & 8) != 0;
            boolean z = (flags & 4) != 0;
            boolean v = (flags & 2) != 0;
            boolean c = (flags & 1) != 0;
            boolean less = n ^ v;
            boolean[] low = {true, !z, z, !less, less, !(z | less), z | less};
            for (int i = 0; i < low.length; i++) {
                branch(1 + i, flags, low[i]);
            }
            boolean[] high = {!n, n, !(c | z), c | z, !v, v, !c, c};
            for (int i = 0; i < high.length; i++) {
                branch(0x80 + i, flags, high[i]);
            }
        }
        for (int k = -128; k < 128; k++) {
            branchBy(k, 1000);
        }
        branchBy(-128, 0);
        branchBy(-1, 0);
        branchBy(127, 4000);
        counts();
        Check.end();
    }

    private static void branch(int bits, int flags, boolean taken) {
        MicroMill mill = new MicroMill();
        mill.poke(1000, bits << 8 | 5);
        mill.set(7, 1000);
        Mills.giveFlags(mill, flags);
        String text = "branch " + Integer.toHexString(bits) + ", flags " + flags;
        Check.due(text, mill.step(), taken ? 4 : 3);
        Check.due(text + ": R7", mill.register(7), taken ? 1012 : 1002);
        Check.due(text + ": flags", mill.flags(), flags);
    }

    private static void branchBy(int k, int from) {
        MicroMill mill = new MicroMill();
        mill.poke(from, 0x0100 | k & 255);
        mill.set(7, from);
        Check.due("branch by " + k, mill.step(), 4);
        Check.due("branch by " + k + " from " + from + ": R7", mill.register(7), from + 2 + 2 * k & 0xFFFF);
    }

    private static void counts() {
        for (int r = 0; r < 7; r++) {
            sob(r, 2, 1, 5);
            sob(r, 1, 0, 4);
            sob(r, 0, 65535, 5);
            sob(r, 0x8000, 0x7FFF, 5);
        }
        for (int nn = 0; nn < 64; nn++) {
            MicroMill mill = new MicroMill();
            mill.poke(40, 0077000 | nn);
            mill.set(7, 40);
            mill.set(0, 9);
            Check.due("SOB R0, " + nn, mill.step(), 5);
            Check.due("SOB R0, " + nn + ": R7", mill.register(7), 42 - 2 * nn & 0xFFFF);
        }
        // SOB of R7 itself: 1 less, and then 2 * nn less.
        MicroMill mill = new MicroMill();
        mill.poke(40, 0077703);
        mill.set(7, 40);
        Check.due("SOB R7, 3", mill.step(), 5);
        Check.due("SOB R7, 3: R7", mill.register(7), 35);
        Check.due("step() at an odd address", mill.step(), -1);
        Check.due("stopped()", mill.stopped(), 3);
        Check.due("R7", mill.register(7), 37);
    }

    private static void sob(int r, int before, int after, int cycles) {
        MicroMill mill = new MicroMill();
        mill.poke(40, 0077000 | r << 6 | 3);
        mill.set(7, 40);
        mill.set(r, before);
        Mills.giveFlags(mill, 10);
        String text = "SOB R" + r + " of " + before;
        Check.due(text, mill.step(), cycles);
        Check.due(text + ": register", mill.register(r), after);
        Check.due(text + ": R7", mill.register(7), after == 0 ? 42 : 36);
        Check.due(text + ": flags", mill.flags(), 10);
    }
}
