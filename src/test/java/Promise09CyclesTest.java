/** Promise 9: cycles. */
public final class Promise09CyclesTest {
    public static void main(String[] args) {
        MicroMill mill = Mills.with(0005201, 0012702, 7, 0000240, 0010213, 0000000);
        mill.set(3, 101);
        Check.due("cycles() at first", mill.cycles(), 0);
        Check.due("INC R1", mill.step(), 5);
        Check.due("cycles()", mill.cycles(), 5);
        Check.due("MOV #7, R2", mill.step(), 7);
        Check.due("cycles()", mill.cycles(), 12);
        Check.due("run(1)", mill.run(1), 1);
        Check.due("cycles()", mill.cycles(), 15);
        Check.due("MOV R2, (R3) at an odd address", mill.step(), -1);
        Check.due("cycles() after a stop", mill.cycles(), 15);
        Check.due("step() when stopped", mill.step(), -1);
        Check.due("cycles() when stopped", mill.cycles(), 15);
        Check.due("go()", mill.go(), true);
        Check.due("cycles() after go", mill.cycles(), 15);
        Check.due("HALT", mill.step(), -1);
        Check.due("cycles() after HALT", mill.cycles(), 15);
        sumsLongRuns();
        Check.end();
    }

    private static void sumsLongRuns() {
        // 400 calls stay within the 512 that an object is promised for.
        MicroMill mill = Mills.with(0017171, 0, 0, 0x01FC);
        mill.set(1, 100);
        mill.poke(100, 200);
        for (int i = 0; i < 400; i++) {
            Check.due("run(10000)", mill.run(10_000), 10_000);
        }
        // MOV @0(R1), @0(R1) takes 14, the branch 4.
        Check.due("cycles()", mill.cycles(), 400L * 5_000 * 18);
    }
}
