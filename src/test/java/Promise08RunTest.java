/** Promise 8: run. */
public final class Promise08RunTest {
    public static void main(String[] args) {
        doesNoMoreThanAsked();
        refusesNothingAndLess();
        hasALimit();
        doesNotCountTheStop();
        Check.end();
    }

    private static void doesNoMoreThanAsked() {
        // INC R1 over and over: BR back
        MicroMill mill = Mills.with(0005201, 0x01FE);
        Check.due("run(1)", mill.run(1), 1);
        Check.due("R1", mill.register(1), 1);
        Check.due("R7", mill.register(7), 2);
        Check.due("run(3)", mill.run(3), 3);
        Check.due("R1", mill.register(1), 2);
        Check.due("R7", mill.register(7), 0);
        Check.due("stopped()", mill.stopped(), 0);
        Check.due("cycles()", mill.cycles(), 18);
    }

    private static void refusesNothingAndLess() {
        MicroMill mill = Mills.with(0005201, 0x01FE);
        int[] amounts = {0, -1, -10_000, Integer.MIN_VALUE};
        for (int n : amounts) {
            Check.due("run(" + n + ")", mill.run(n), 0);
            Check.due("R7", mill.register(7), 0);
            Check.due("R1", mill.register(1), 0);
        }
    }

    private static void hasALimit() {
        int[] amounts = {9_999, 10_000, 10_001, 20_000, Integer.MAX_VALUE};
        for (int n : amounts) {
            MicroMill mill = Mills.with(0005201, 0x01FE);
            int due = Math.min(n, 10_000);
            Check.due("run(" + n + ")", mill.run(n), due);
            Check.due("R1", mill.register(1), (due + 1) / 2);
            Check.due("stopped()", mill.stopped(), 0);
        }
    }

    private static void doesNotCountTheStop() {
        MicroMill mill = Mills.with(0005201, 0005201, 0000000, 0005201, 0000007);
        Check.due("run(3) to HALT", mill.run(3), 2);
        Check.due("stopped()", mill.stopped(), 1);
        Check.due("run(3) when stopped", mill.run(3), 0);
        Check.due("go()", mill.go(), true);
        Check.due("run(100)", mill.run(100), 1);
        Check.due("stopped()", mill.stopped(), 2);
        Check.due("R1", mill.register(1), 3);
        Check.due("R7", mill.register(7), 10);
        // A run of exactly as many as come before the stop has not stopped.
        mill = Mills.with(0005201, 0005201, 0000000);
        Check.due("run(2)", mill.run(2), 2);
        Check.due("stopped()", mill.stopped(), 0);
        // A stop at once.
        mill = Mills.with(0000000);
        Check.due("run(1) of HALT", mill.run(1), 0);
        Check.due("stopped()", mill.stopped(), 1);
    }
}
