/** Promises 7 and 10: why an instruction stops, and that what it did before stays. */
public final class Promise07StopsTest {
    public static void main(String[] args) {
        halts();
        everyWordThatThereIsNot();
        fetchStops();
        keepsWhatWasDone();
        oddComesFirst();
        pointersStop();
        doesNothingWhenStopped();
        Check.end();
    }

    private static void halts() {
        MicroMill mill = Mills.with(0000000);
        Mills.giveFlags(mill, 6);
        long cycles = mill.cycles();
        Check.due("HALT", mill.step(), -1);
        Check.due("stopped()", mill.stopped(), 1);
        Check.due("R7", mill.register(7), 2);
        Check.due("flags()", mill.flags(), 6);
        Check.due("cycles()", mill.cycles(), cycles);
    }

    /** Every word's stop with all operands good: 2 just where the document tells no instruction. */
    private static void everyWordThatThereIsNot() {
        for (int word = 0; word < 65536; word++) {
            MicroMill mill = Mills.with(word, 100, 100);
            for (int r = 0; r < 7; r++) {
                mill.set(r, 200);
            }
            mill.set(6, 300);
            for (int address = 96; address < 110; address += 2) {
                mill.poke(address, 200);
                mill.poke(address + 100, 200);
                mill.poke(address + 200, 200);
            }
            int answer = mill.step();
            if (isNone(word)) {
                Check.due(Mills.octal(word) + " step()", answer, -1);
                Check.due(Mills.octal(word) + " stopped()", mill.stopped(), 2);
                Check.due(Mills.octal(word) + " R7", mill.register(7), 2);
            } else {
                Check.due(Mills.octal(word) + " is an instruction", mill.stopped() != 2, true);
            }
        }
    }

    private static boolean isIn(int word, int first, int last) {
        return word >= first && word <= last;
    }

    /** The gaps between the document's instructions, in their order. */
    private static boolean isNone(int word) {
        return isIn(word, 0000001, 0000107)
            || isIn(word, 0000210, 0000237)
            || isIn(word, 0004000, 0004777) && (word & 070) == 0
            || isIn(word, 0006400, 0007777)
            || isIn(word, 0070000, 0076777)
            || isIn(word, 0104000, 0104777)
            || isIn(word, 0106400, 0107777)
            || isIn(word, 0170000, 0177777);
    }

    private static void fetchStops() {
        int[] places = {1, 4095, 4096, 4097, 65534, 65535};
        int[] stops = {3, 3, 4, 3, 4, 3};
        for (int i = 0; i < places.length; i++) {
            MicroMill mill = new MicroMill();
            mill.set(7, places[i]);
            Check.due("step() at " + places[i], mill.step(), -1);
            Check.due("stopped() at " + places[i], mill.stopped(), stops[i]);
            Check.due("R7 from " + places[i], mill.register(7), places[i] + 2 & 0xFFFF);
        }
        MicroMill mill = new MicroMill();
        mill.poke(4094, 0000240);
        mill.set(7, 4094);
        Check.due("step() at 4094", mill.step(), 3);
        Check.due("step() at 4096", mill.step(), -1);
        Check.due("stopped()", mill.stopped(), 4);
    }

    private static void keepsWhatWasDone() {
        // MOV (R1)+, @(R2)+ whose last address is odd
        MicroMill mill = Mills.with(0012132);
        mill.set(1, 100);
        mill.set(2, 200);
        mill.poke(100, 5);
        mill.poke(200, 301);
        Mills.giveFlags(mill, 15);
        Check.due("MOV (R1)+, @(R2)+", mill.step(), -1);
        Check.due("stopped()", mill.stopped(), 3);
        Check.due("R1", mill.register(1), 102);
        Check.due("R2", mill.register(2), 202);
        Check.due("R7", mill.register(7), 2);
        Check.due("flags()", mill.flags(), 15);
        Check.due("peek(300)", mill.peek(300), 0);
        // A source that stops leaves the destination alone: ADD (R1)+, (R2)+
        mill = Mills.with(0062122);
        mill.set(1, 101);
        mill.set(2, 200);
        Check.due("ADD (R1)+, (R2)+", mill.step(), -1);
        Check.due("stopped()", mill.stopped(), 3);
        Check.due("R1", mill.register(1), 103);
        Check.due("R2", mill.register(2), 200);
        // So does an address of the source that cannot be read: ADD @(R1)+, (R2)+
        mill = Mills.with(0063122);
        mill.set(1, 101);
        mill.set(2, 200);
        Check.due("ADD @(R1)+, (R2)+", mill.step(), -1);
        Check.due("stopped()", mill.stopped(), 3);
        Check.due("R1", mill.register(1), 103);
        Check.due("R2", mill.register(2), 200);
        // An index word beyond memory: CLR x(R1) at the end
        mill = Mills.with(9);
        mill.poke(4094, 0005061);
        mill.set(7, 4094);
        Mills.giveFlags(mill, 11);
        Check.due("CLR x(R1) at 4094", mill.step(), -1);
        Check.due("stopped()", mill.stopped(), 4);
        Check.due("R7", mill.register(7), 4098);
        Check.due("peek(0)", mill.peek(0), 9);
        Check.due("flags()", mill.flags(), 11);
        // The same of the source: MOV x(R1), (R2)+ at the end
        mill = Mills.with(9);
        mill.poke(4094, 0016122);
        mill.set(7, 4094);
        mill.set(2, 200);
        Check.due("MOV x(R1), (R2)+ at 4094", mill.step(), -1);
        Check.due("stopped()", mill.stopped(), 4);
        Check.due("R2", mill.register(2), 200);
        // The same of mode 7: the first stop is the one that counts, and nothing is read after it.
        mill = new MicroMill();
        mill.poke(4094, 0005071);
        mill.set(7, 4094);
        mill.set(1, 1);
        Check.due("CLR @x(R1) at 4094", mill.step(), -1);
        Check.due("stopped()", mill.stopped(), 4);
        // MOV x(R1), y(R2) whose source stops: the second word is not taken.
        mill = Mills.with(0016162, 1, 2);
        Check.due("MOV 1(R1), 2(R2)", mill.step(), -1);
        Check.due("stopped()", mill.stopped(), 3);
        Check.due("R7", mill.register(7), 4);
    }

    private static void oddComesFirst() {
        int[] addresses = {4097, 65535, 4095, 4096, 65534};
        int[] ofWords = {3, 3, 3, 4, 4};
        int[] ofBytes = {4, 4, 0, 4, 4};
        for (int i = 0; i < addresses.length; i++) {
            MicroMill mill = Mills.with(0005711);
            mill.set(1, addresses[i]);
            mill.step();
            Check.due("TST at " + addresses[i] + ": stopped()", mill.stopped(), ofWords[i]);
            mill = Mills.with(0105711);
            mill.set(1, addresses[i]);
            mill.step();
            Check.due("TSTB at " + addresses[i] + ": stopped()", mill.stopped(), ofBytes[i]);
        }
    }

    /** An address that stands in memory is a word, of bytes too. */
    private static void pointersStop() {
        for (int mode = 3; mode <= 7; mode += 2) {
            int word = 0105700 | mode << 3 | 1;
            MicroMill mill = Mills.with(word, 0);
            mill.set(1, 101);
            Check.due(Mills.octal(word) + " odd", mill.step(), -1);
            Check.due("stopped()", mill.stopped(), 3);
            mill = Mills.with(word, 0);
            mill.set(1, 4200);
            Check.due(Mills.octal(word) + " beyond", mill.step(), -1);
            Check.due("stopped()", mill.stopped(), 4);
        }
    }

    /** What stops a machine for each of the four reasons; R1 is 1 and R2 4096. */
    private static void doesNothingWhenStopped() {
        stayStopped(0000000, 1);
        stayStopped(0000001, 2);
        stayStopped(0005711, 3);
        stayStopped(0005712, 4);
    }

    private static void stayStopped(int word, int reason) {
        // INC R3 and INC (R4) would come next.
        MicroMill mill = Mills.with(word, 0005203, 0005214);
        mill.set(1, 1);
        mill.set(2, 4096);
        mill.set(4, 100);
        Mills.giveFlags(mill, 15);
        long cycles = mill.cycles();
        mill.step();
        for (int i = 0; i < 3; i++) {
            Check.due("step() when stopped by " + reason, mill.step(), -1);
            Check.due("run(5) when stopped by " + reason, mill.run(5), 0);
            Check.due("register(7)", mill.register(7), 2);
            Check.due("register(3)", mill.register(3), 0);
            Check.due("peek(100)", mill.peek(100), 0);
            Check.due("flags()", mill.flags(), 15);
            Check.due("stopped()", mill.stopped(), reason);
            Check.due("cycles()", mill.cycles(), cycles);
        }
        // R7 set anew does not make it go.
        mill.set(7, 2);
        Check.due("step() when stopped by " + reason + ", R7 2", mill.step(), -1);
        Check.due("register(7)", mill.register(7), 2);
        Check.due("register(3)", mill.register(3), 0);
    }
}
