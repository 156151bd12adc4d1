/** Promise 1: a new object. */
public final class Promise01NewObjectTest {
    public static void main(String[] args) {
        allOfMemoryIsZero();
        registersAndFlagsAreZero();
        hasNotStopped();
        isOneOfItsOwn();
        Check.end();
    }

    private static void allOfMemoryIsZero() {
        // An object is good for 512 calls, so memory is looked at in parts.
        for (int from = 0; from < 4096; from += 512) {
            MicroMill mill = new MicroMill();
            for (int address = from; address < from + 512; address += 2) {
                Check.due("peek(" + address + ")", mill.peek(address), 0);
            }
        }
    }

    private static void registersAndFlagsAreZero() {
        MicroMill mill = new MicroMill();
        for (int r = 0; r < 8; r++) {
            Check.due("register(" + r + ")", mill.register(r), 0);
        }
        Check.due("flags()", mill.flags(), 0);
        Check.due("cycles()", mill.cycles(), 0);
    }

    private static void hasNotStopped() {
        MicroMill mill = new MicroMill();
        Check.due("stopped()", mill.stopped(), 0);
        Check.due("go()", mill.go(), false);
        // Its first instruction is the 0 at address 0: HALT.
        Check.due("step()", mill.step(), -1);
        Check.due("stopped() after step()", mill.stopped(), 1);
        Check.due("register(7) after step()", mill.register(7), 2);
    }

    private static void isOneOfItsOwn() {
        MicroMill mill = new MicroMill();
        MicroMill other = new MicroMill();
        mill.poke(100, 7);
        mill.set(3, 7);
        Mills.giveFlags(mill, 15);
        mill.step();
        MicroMill later = new MicroMill();
        MicroMill[] others = {other, later};
        for (MicroMill one : others) {
            Check.due("peek(100) of another object", one.peek(100), 0);
            Check.due("register(3) of another object", one.register(3), 0);
            Check.due("register(7) of another object", one.register(7), 0);
            Check.due("flags() of another object", one.flags(), 0);
            Check.due("cycles() of another object", one.cycles(), 0);
            Check.due("stopped() of another object", one.stopped(), 0);
        }
    }
}
