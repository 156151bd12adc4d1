/** Promise 1: a new object. */
public final class Promise01NewObjectTest {
    public static void main(String[] args) {
        // An object is good for 512 calls, so memory is looked at in parts.
        for (int from = 0; from < 4096; from += 512) {
            MicroMill mill = new MicroMill();
            for (int address = from; address < from + 512; address += 2) {
                Check.due("peek(" + address + ")", mill.peek(address), 0);
            }
        }
        MicroMill mill = new MicroMill();
        for (int r = 0; r < 8; r++) {
            Check.due("register(" + r + ")", mill.register(r), 0);
        }
        Check.due("flags()", mill.flags(), 0);
        Check.due("stopped()", mill.stopped(), 0);
        Check.due("cycles()", mill.cycles(), 0);
        Check.due("go()", mill.go(), false);

        MicroMill other = new MicroMill();
        mill.poke(100, 7);
        mill.set(3, 7);
        Check.due("peek(100) of another object", other.peek(100), 0);
        Check.due("register(3) of another object", other.register(3), 0);
        Check.end();
    }
}
