/** Promises 4 and 5: set and register. */
public final class Promise04And05RegisterTest {
    private static final int[] THERE_IS_NONE = {-1, -8, 8, 9, 16, 65536, Integer.MAX_VALUE, Integer.MIN_VALUE};

    public static void main(String[] args) {
        MicroMill mill = new MicroMill();
        for (int r = 0; r < 8; r++) {
            Check.due("set(" + r + ")", mill.set(r, 1000 + r), true);
        }
        for (int r = 0; r < 8; r++) {
            Check.due("register(" + r + ")", mill.register(r), 1000 + r);
        }
        int[] values = {0, 1, 32767, 32768, 65535, 65536, 65537, -1, -2, -32768, Integer.MAX_VALUE, Integer.MIN_VALUE};
        int[] kept = {0, 1, 32767, 32768, 65535, 0, 1, 65535, 65534, 32768, 65535, 0};
        for (int i = 0; i < values.length; i++) {
            for (int r = 0; r < 8; r += 7) {
                Check.due("set(" + r + ", " + values[i] + ")", mill.set(r, values[i]), true);
                Check.due("register after set(" + r + ", " + values[i] + ")", mill.register(r), kept[i]);
            }
        }
        for (int r : THERE_IS_NONE) {
            Check.due("set(" + r + ", 5)", mill.set(r, 5), false);
            Check.due("register(" + r + ")", mill.register(r), -1);
        }
        for (int r = 1; r < 7; r++) {
            Check.due("register(" + r + ") after refusals", mill.register(r), 1000 + r);
        }
        Check.due("flags()", mill.flags(), 0);
        Check.due("stopped()", mill.stopped(), 0);
        Check.end();
    }
}
