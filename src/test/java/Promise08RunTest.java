/** Promise 8: run. */
public final class Promise08RunTest {
    /** INC R1 over and over: the second instruction is a branch back. */
    private static final int[] ENDLESS = {0005201, 0x01FE};

    public static void main(String[] args) {
        doesNoMoreThanAsked();
        doesNothingForNoneAndLess();
        isAsTenThousandAbove();
        doesNotComeToAStopBehindTheLimit();
        doesNotCountTheStop();
        stopsForEveryReason();
        doesNothingWhenStopped();
        goesOnWhereItWas();
        Check.end();
    }

    private static void doesNoMoreThanAsked() {
        MicroMill mill = Mills.with(ENDLESS);
        Check.due("run(1)", mill.run(1), 1);
        Check.due("R1", mill.register(1), 1);
        Check.due("R7", mill.register(7), 2);
        Check.due("run(3)", mill.run(3), 3);
        Check.due("R1", mill.register(1), 2);
        Check.due("R7", mill.register(7), 0);
        Check.due("stopped()", mill.stopped(), 0);
        Check.due("cycles()", mill.cycles(), 18);
    }

    private static void doesNothingForNoneAndLess() {
        MicroMill mill = Mills.with(ENDLESS);
        int[] amounts = {0, -1, -2, -10_000, -10_001, Integer.MIN_VALUE, Integer.MIN_VALUE + 1};
        for (int n : amounts) {
            Check.due("run(" + n + ")", mill.run(n), 0);
            Check.due("R7", mill.register(7), 0);
            Check.due("R1", mill.register(1), 0);
            Check.due("cycles()", mill.cycles(), 0);
        }
        // Before a HALT, too: it is not come to.
        mill = Mills.with(0000000);
        Check.due("run(0) before HALT", mill.run(0), 0);
        Check.due("run(-1) before HALT", mill.run(-1), 0);
        Check.due("stopped()", mill.stopped(), 0);
        Check.due("R7", mill.register(7), 0);
    }

    private static void isAsTenThousandAbove() {
        int[] amounts = {9_999, 10_000, 10_001, 20_000, 65_536, 1_000_000, Integer.MAX_VALUE};
        for (int n : amounts) {
            MicroMill mill = Mills.with(ENDLESS);
            int due = Math.min(n, 10_000);
            Check.due("run(" + n + ")", mill.run(n), due);
            Check.due("R1", mill.register(1), (due + 1) / 2);
            Check.due("cycles()", mill.cycles(), 5L * ((due + 1) / 2) + 4L * (due / 2));
            Check.due("stopped()", mill.stopped(), 0);
            // The limit is each call's own.
            Check.due("run(" + n + ") again", mill.run(n), due);
        }
    }

    /** SOB R1 does itself R1 times; behind it comes HALT. */
    private static void doesNotComeToAStopBehindTheLimit() {
        int[] counts = {9_998, 9_999, 10_000, 10_001};
        int[] stops = {1, 1, 0, 0};
        for (int i = 0; i < counts.length; i++) {
            MicroMill mill = Mills.with(0077101, 0000000);
            mill.set(1, counts[i]);
            Check.due("run(20000) of " + counts[i], mill.run(20_000), Math.min(counts[i], 10_000));
            Check.due("stopped()", mill.stopped(), stops[i]);
            Check.due("R1", mill.register(1), Math.max(counts[i] - 10_000, 0));
        }
    }

    private static void doesNotCountTheStop() {
        MicroMill mill = Mills.with(0005201, 0005201, 0000000);
        Check.due("run(3) to HALT", mill.run(3), 2);
        Check.due("stopped()", mill.stopped(), 1);
        // A run of exactly as many as come before the stop has not stopped.
        mill = Mills.with(0005201, 0005201, 0000000);
        Check.due("run(2)", mill.run(2), 2);
        Check.due("stopped()", mill.stopped(), 0);
        // A stop at once.
        mill = Mills.with(0000000);
        Check.due("run(1) of HALT", mill.run(1), 0);
        Check.due("stopped()", mill.stopped(), 1);
    }

    private static void stopsForEveryReason() {
        int[] words = {0000000, 0000001, 0005712, 0005713};
        for (int i = 0; i < words.length; i++) {
            // INC R1 twice, then HALT, no instruction, TST (R2), TST (R3)
            MicroMill mill = Mills.with(0005201, 0005201, words[i], 0005201);
            mill.set(2, 1);
            mill.set(3, 4096);
            Check.due("run(100) to stop " + (i + 1), mill.run(100), 2);
            Check.due("stopped()", mill.stopped(), i + 1);
            Check.due("R1", mill.register(1), 2);
            Check.due("R7", mill.register(7), 6);
            Check.due("cycles()", mill.cycles(), 10);
        }
        // To memory's end: the fetch behind it stops.
        MicroMill mill = new MicroMill();
        mill.poke(4092, 0005201);
        mill.poke(4094, 0005201);
        mill.set(7, 4092);
        Check.due("run(100) to memory's end", mill.run(100), 2);
        Check.due("stopped()", mill.stopped(), 4);
        Check.due("R7", mill.register(7), 4098);
    }

    private static void doesNothingWhenStopped() {
        MicroMill mill = Mills.with(0000000, 0005201);
        mill.step();
        int[] amounts = {1, 0, -1, 10_000, Integer.MAX_VALUE};
        for (int n : amounts) {
            Check.due("run(" + n + ") when stopped", mill.run(n), 0);
            Check.due("stopped()", mill.stopped(), 1);
            Check.due("R7", mill.register(7), 2);
        }
    }

    private static void goesOnWhereItWas() {
        MicroMill mill = Mills.with(0005201, 0000000, 0005201, 0000007);
        Check.due("run(3)", mill.run(3), 1);
        Check.due("go()", mill.go(), true);
        Check.due("run(100)", mill.run(100), 1);
        Check.due("stopped()", mill.stopped(), 2);
        Check.due("R1", mill.register(1), 2);
        Check.due("R7", mill.register(7), 8);
    }
}
