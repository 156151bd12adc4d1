/** Promises 10 and 11: stopped and go. */
public final class Promise10And11StopAndGoTest {
    public static void main(String[] args) {
        hasNotStoppedAtFirst();
        stop(0000000, 0, 1);
        stop(0000007, 0, 2);
        stop(0005711, 1, 3);
        stop(0005711, 4096, 4);
        stop(0105711, 4096, 4);
        goesOnBehindTheStop();
        tellsTheLastReason();
        hadNotStopped();
        Check.end();
    }

    private static void hasNotStoppedAtFirst() {
        MicroMill mill = new MicroMill();
        Check.due("stopped() at first", mill.stopped(), 0);
        Check.due("go() at first", mill.go(), false);
        Check.due("go() again", mill.go(), false);
        Check.due("stopped() after go()", mill.stopped(), 0);
    }

    private static void stop(int word, int r1, int reason) {
        MicroMill mill = Mills.with(word);
        mill.set(1, r1);
        for (int r = 2; r < 7; r++) {
            mill.set(r, 100 + r);
        }
        mill.poke(100, 55);
        Mills.giveFlags(mill, 11);
        long cycles = mill.cycles();
        Check.due(Mills.octal(word) + " stopped() before", mill.stopped(), 0);
        Check.due(Mills.octal(word) + " step()", mill.step(), -1);
        Check.due(Mills.octal(word) + " stopped()", mill.stopped(), reason);
        Check.due(Mills.octal(word) + " stopped() again", mill.stopped(), reason);
        Check.due(Mills.octal(word) + " go()", mill.go(), true);
        Check.due(Mills.octal(word) + " stopped() after go", mill.stopped(), 0);
        Check.due(Mills.octal(word) + " go() again", mill.go(), false);
        Check.due("R1 stays", mill.register(1), r1);
        for (int r = 2; r < 7; r++) {
            Check.due("register(" + r + ") stays", mill.register(r), 100 + r);
        }
        Check.due("R7 stays", mill.register(7), 2);
        Check.due("peek(0) stays", mill.peek(0), word);
        Check.due("peek(100) stays", mill.peek(100), 55);
        Check.due("flags() stay", mill.flags(), 11);
        Check.due("cycles() stay", mill.cycles(), cycles);
    }

    private static void goesOnBehindTheStop() {
        MicroMill mill = Mills.with(0005201, 0000000, 0005201, 0000000);
        Check.due("run(9)", mill.run(9), 1);
        Check.due("go()", mill.go(), true);
        Check.due("run(9)", mill.run(9), 1);
        Check.due("R1", mill.register(1), 2);
        Check.due("R7", mill.register(7), 8);
        Check.due("stopped()", mill.stopped(), 1);
    }

    private static void tellsTheLastReason() {
        // HALT, no instruction, TST (R1), TST (R2), TST (R1), no instruction, HALT
        MicroMill mill = Mills.with(0000000, 0000001, 0005711, 0005712, 0005711, 0000001, 0000000);
        mill.set(1, 1);
        mill.set(2, 4096);
        int[] reasons = {1, 2, 3, 4, 3, 2, 1};
        for (int reason : reasons) {
            Check.due("step()", mill.step(), -1);
            Check.due("stopped()", mill.stopped(), reason);
            Check.due("go()", mill.go(), true);
            Check.due("stopped() after go()", mill.stopped(), 0);
        }
    }

    private static void hadNotStopped() {
        // INC R1 over and over: go() between changes nothing.
        MicroMill mill = Mills.with(0005201, 0x01FE);
        for (int i = 1; i <= 20; i++) {
            Check.due("step()", mill.step(), i % 2 == 1 ? 5 : 4);
            Check.due("go() of a machine that goes", mill.go(), false);
            Check.due("R1", mill.register(1), (i + 1) / 2);
            Check.due("R7", mill.register(7), i % 2 == 1 ? 2 : 0);
        }
    }
}
