/** Promise 9: cycles. */
public final class Promise09CyclesTest {
    public static void main(String[] args) {
        sumsWhatStepsAnswer();
        doesNotCountAStop();
        sumsARunThatStops();
        hasItsLeastAndMost();
        sumsLongRuns();
        Check.end();
    }

    private static void sumsWhatStepsAnswer() {
        MicroMill mill = Mills.with(0005201, 0012702, 7, 0000240);
        Check.due("cycles() at first", mill.cycles(), 0);
        Check.due("INC R1", mill.step(), 5);
        Check.due("cycles()", mill.cycles(), 5);
        Check.due("MOV #7, R2", mill.step(), 7);
        Check.due("cycles()", mill.cycles(), 12);
        Check.due("run(1)", mill.run(1), 1);
        Check.due("cycles()", mill.cycles(), 15);
        Check.due("cycles() again", mill.cycles(), 15);
    }

    /** Every instruction here has spent microcycles before it stops. */
    private static void doesNotCountAStop() {
        // HALT, none, MOV R2, (R3), MOV (R2)+, @(R3), TSTB @0(R4), JMP R1, JSR R5, (R2), RTS R5
        int[][] programs = {
            {0000000}, {0000007}, {0010213}, {0012213}, {0105774, 0}, {0000101}, {0004512}, {0000205},
        };
        for (int[] program : programs) {
            MicroMill mill = Mills.with(program);
            mill.set(2, 200);
            mill.set(3, 101);
            mill.set(4, 4096);
            mill.set(6, 1);
            Mills.giveFlags(mill, 0);
            String text = Mills.octal(program[0]);
            Check.due(text + ": cycles() before", mill.cycles(), 6);
            Check.due(text + ": step()", mill.step(), -1);
            Check.due(text + ": cycles() after a stop", mill.cycles(), 6);
            Check.due(text + ": step() when stopped", mill.step(), -1);
            Check.due(text + ": cycles() when stopped", mill.cycles(), 6);
            mill.go();
            Check.due(text + ": cycles() after go()", mill.cycles(), 6);
            // What the stopped one had spent is not counted with the next, either.
            mill.set(7, 1000);
            mill.poke(1000, 0005201);
            Check.due(text + ": INC R1 after go()", mill.step(), 5);
            Check.due(text + ": cycles() after INC R1", mill.cycles(), 11);
        }
    }

    private static void sumsARunThatStops() {
        // INC R1, NOP, TST (R2) with R2 odd
        MicroMill mill = Mills.with(0005201, 0000240, 0005712);
        mill.set(2, 1);
        Check.due("run(9)", mill.run(9), 2);
        Check.due("cycles() after a run that stops", mill.cycles(), 8);
        Check.due("run(9) when stopped", mill.run(9), 0);
        Check.due("cycles() when stopped", mill.cycles(), 8);
    }

    private static void hasItsLeastAndMost() {
        // NOP takes the least, MOV @0(R1), @0(R1) the most.
        MicroMill mill = Mills.with(0000240, 0017171, 0, 0);
        mill.set(1, 100);
        mill.poke(100, 200);
        Check.due("NOP", mill.step(), 3);
        Check.due("cycles()", mill.cycles(), 3);
        Check.due("MOV @0(R1), @0(R1)", mill.step(), 14);
        Check.due("cycles()", mill.cycles(), 17);
    }

    private static void sumsLongRuns() {
        // 400 calls stay within the 512 that an object is promised for.
        MicroMill mill = Mills.with(0017171, 0, 0, 0x01FC);
        mill.set(1, 100);
        mill.poke(100, 200);
        for (int i = 0; i < 400; i++) {
            Check.due("run(10000)", mill.run(10_000), 10_000);
        }
        // MOV @0(R1), @0(R1) takes 14, the branch 4.
        Check.due("cycles()", mill.cycles(), 400L * 5_000 * 18);
    }
}
