/** Promises 4 and 5: set and register. */
public final class Promise04And05RegisterTest {
    private static final int[] THERE_IS_NONE = {
        -1, -7, -8, 8, 9, 15, 16, 256, 65536, 65543, Integer.MAX_VALUE, Integer.MIN_VALUE,
    };

    public static void main(String[] args) {
        areEightOfTheirOwn();
        keepLowestBits();
        setRefuses();
        registerHasNone();
        changesNothingElse();
        givesSevenAnyAddress();
        worksWhenStopped();
        Check.end();
    }

    private static MicroMill filled() {
        MicroMill mill = new MicroMill();
        for (int r = 0; r < 8; r++) {
            Check.due("set(" + r + ")", mill.set(r, 1000 + r), true);
        }
        return mill;
    }

    private static void areEightOfTheirOwn() {
        MicroMill mill = filled();
        for (int r = 0; r < 8; r++) {
            Check.due("register(" + r + ")", mill.register(r), 1000 + r);
        }
    }

    private static void keepLowestBits() {
        int[] values = {
            0, 1, 32767, 32768, 65535, 65536, 65537, 131071, -1, -2, -32768, -32769, -65535, -65536,
            Integer.MAX_VALUE, Integer.MIN_VALUE,
        };
        int[] kept = {0, 1, 32767, 32768, 65535, 0, 1, 65535, 65535, 65534, 32768, 32767, 1, 0, 65535, 0};
        for (int r = 0; r < 8; r++) {
            MicroMill mill = filled();
            for (int i = 0; i < values.length; i++) {
                Check.due("set(" + r + ", " + values[i] + ")", mill.set(r, values[i]), true);
                Check.due("register after set(" + r + ", " + values[i] + ")", mill.register(r), kept[i]);
            }
        }
    }

    private static void setRefuses() {
        for (int none : THERE_IS_NONE) {
            MicroMill mill = filled();
            Check.due("set(" + none + ", 5)", mill.set(none, 5), false);
            for (int r = 0; r < 8; r++) {
                Check.due("register(" + r + ") after set(" + none + ", 5)", mill.register(r), 1000 + r);
            }
            Check.due("stopped() after set(" + none + ", 5)", mill.stopped(), 0);
        }
    }

    private static void registerHasNone() {
        for (int none : THERE_IS_NONE) {
            MicroMill mill = filled();
            Check.due("register(" + none + ")", mill.register(none), MicroMill.NONE);
            Check.due("stopped() after register(" + none + ")", mill.stopped(), 0);
        }
    }

    private static void changesNothingElse() {
        MicroMill mill = new MicroMill();
        mill.poke(0, 7);
        Mills.giveFlags(mill, 10);
        long cycles = mill.cycles();
        for (int r = 0; r < 8; r++) {
            mill.set(r, 0);
            mill.set(r, 65535);
        }
        Check.due("flags() after set", mill.flags(), 10);
        Check.due("peek(0) after set", mill.peek(0), 7);
        Check.due("cycles() after set", mill.cycles(), cycles);
        Check.due("stopped() after set", mill.stopped(), 0);
    }

    private static void givesSevenAnyAddress() {
        int[] addresses = {1, 4095, 4096, 65535};
        for (int address : addresses) {
            MicroMill mill = new MicroMill();
            Check.due("set(7, " + address + ")", mill.set(7, address), true);
            Check.due("register(7)", mill.register(7), address);
            Check.due("stopped() before step()", mill.stopped(), 0);
            Check.due("step()", mill.step(), -1);
        }
    }

    private static void worksWhenStopped() {
        MicroMill mill = new MicroMill();
        mill.step();
        Check.due("set(7, 10) when stopped", mill.set(7, 10), true);
        Check.due("register(7) when stopped", mill.register(7), 10);
        Check.due("set(8, 10) when stopped", mill.set(8, 10), false);
        Check.due("stopped()", mill.stopped(), 1);
    }
}
