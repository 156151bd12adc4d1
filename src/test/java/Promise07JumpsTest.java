/** Promise 7: JMP, JSR and RTS. */
public final class Promise07JumpsTest {
    private static final int[] ADDRESS_CYCLES = {0, 1, 1, 2, 2, 3, 3, 4};

    public static void main(String[] args) {
        for (int mode = 1; mode < 8; mode++) {
            jump(mode);
            subroutine(mode);
        }
        goesAnywhere();
        refusesRegisters();
        stopsOnTheWay();
        subroutineOfSpecialRegisters();
        returns();
        returnsStop();
        Check.end();
    }

    private static MicroMill room(int word) {
        MicroMill mill = Mills.with(word, 10);
        mill.set(1, 200);
        mill.set(6, 1000);
        mill.poke(198, 300);
        mill.poke(200, 302);
        mill.poke(210, 306);
        return mill;
    }

    private static int targetDue(int mode) {
        return new int[] {-1, 200, 200, 302, 198, 300, 210, 306}[mode];
    }

    private static int pointerDue(int mode) {
        return new int[] {-1, 200, 202, 202, 198, 198, 200, 200}[mode];
    }

    private static void jump(int mode) {
        MicroMill mill = room(0000100 | mode << 3 | 1);
        Mills.giveFlags(mill, 5);
        Check.due("JMP mode " + mode, mill.step(), 3 + ADDRESS_CYCLES[mode]);
        Check.due("JMP mode " + mode + ": R7", mill.register(7), targetDue(mode));
        Check.due("JMP mode " + mode + ": R1", mill.register(1), pointerDue(mode));
        Check.due("JMP mode " + mode + ": R6", mill.register(6), 1000);
        Check.due("JMP mode " + mode + ": flags", mill.flags(), 5);
    }

    private static void subroutine(int mode) {
        MicroMill mill = room(0004000 | 5 << 6 | mode << 3 | 1);
        mill.set(5, 4321);
        Mills.giveFlags(mill, 10);
        Check.due("JSR mode " + mode, mill.step(), 8 + ADDRESS_CYCLES[mode]);
        Check.due("JSR mode " + mode + ": R7", mill.register(7), targetDue(mode));
        Check.due("JSR mode " + mode + ": R1", mill.register(1), pointerDue(mode));
        Check.due("JSR mode " + mode + ": R5", mill.register(5), mode >= 6 ? 4 : 2);
        Check.due("JSR mode " + mode + ": R6", mill.register(6), 998);
        Check.due("JSR mode " + mode + ": stack", mill.peek(998), 4321);
        Check.due("JSR mode " + mode + ": flags", mill.flags(), 10);
    }

    private static void goesAnywhere() {
        int[] targets = {1, 4095, 4096, 65535};
        for (int target : targets) {
            MicroMill mill = Mills.with(0000111);
            mill.set(1, target);
            Check.due("JMP to " + target, mill.step(), 4);
            Check.due("R7", mill.register(7), target);
            Check.due("stopped()", mill.stopped(), 0);
            Check.due("step() there", mill.step(), -1);
            Check.due("stopped() there", mill.stopped(), target % 2 == 1 ? 3 : 4);
            mill = Mills.with(0004511);
            mill.set(1, target);
            mill.set(6, 100);
            Check.due("JSR to " + target, mill.step(), 9);
            Check.due("R7", mill.register(7), target);
        }
        // JMP (R7)+ goes to the word behind it, which R7 is before it goes on.
        MicroMill mill = Mills.with(0000127);
        Check.due("JMP (R7)+", mill.step(), 4);
        Check.due("R7", mill.register(7), 2);
    }

    private static void refusesRegisters() {
        for (int r = 0; r < 8; r++) {
            int[] words = {0000100 | r, 0004500 | r};
            for (int word : words) {
                MicroMill mill = room(word);
                mill.set(5, 77);
                Check.due(Mills.octal(word), mill.step(), -1);
                Check.due(Mills.octal(word) + ": stopped()", mill.stopped(), 2);
                Check.due(Mills.octal(word) + ": R7", mill.register(7), 2);
                Check.due(Mills.octal(word) + ": R6", mill.register(6), 1000);
                Check.due(Mills.octal(word) + ": R5", mill.register(5), 77);
                Check.due(Mills.octal(word) + ": peek(998)", mill.peek(998), 0);
                Check.due(Mills.octal(word) + ": cycles()", mill.cycles(), 0);
            }
        }
    }

    private static void stopsOnTheWay() {
        // JMP @(R1)+ at an odd address: R1 has gone on.
        MicroMill mill = Mills.with(0000131);
        mill.set(1, 101);
        Check.due("JMP @(R1)+", mill.step(), -1);
        Check.due("stopped()", mill.stopped(), 3);
        Check.due("R1", mill.register(1), 103);
        Check.due("R7", mill.register(7), 2);
        // JMP @0(R1) beyond memory.
        mill = Mills.with(0000171, 0);
        mill.set(1, 4096);
        Check.due("JMP @0(R1)", mill.step(), -1);
        Check.due("stopped()", mill.stopped(), 4);
        Check.due("R7", mill.register(7), 4);
        // JSR whose destination stops leaves the stack alone.
        mill = Mills.with(0004551);
        mill.set(1, 5000);
        mill.set(6, 100);
        mill.set(5, 9);
        Check.due("JSR R5, @-(R1)", mill.step(), -1);
        Check.due("stopped()", mill.stopped(), 4);
        Check.due("R1", mill.register(1), 4998);
        Check.due("R6", mill.register(6), 100);
        // JSR whose stack is odd or beyond memory has stepped R6 down, and no more.
        int[] stacks = {101, 4098, 0, 1};
        int[] stops = {3, 4, 4, 3};
        for (int i = 0; i < stacks.length; i++) {
            mill = Mills.with(0004521);
            mill.set(1, 300);
            mill.set(5, 9);
            mill.set(6, stacks[i]);
            Check.due("JSR with R6 " + stacks[i], mill.step(), -1);
            Check.due("stopped()", mill.stopped(), stops[i]);
            Check.due("R6", mill.register(6), stacks[i] - 2 & 0xFFFF);
            Check.due("R5", mill.register(5), 9);
            Check.due("R1", mill.register(1), 302);
            Check.due("R7", mill.register(7), 2);
        }
        mill = Mills.with(0004511);
        mill.set(1, 300);
        mill.set(6, 4096);
        Check.due("JSR with R6 4096", mill.step(), 9);
    }

    private static void subroutineOfSpecialRegisters() {
        // JSR R7: the next instruction's address comes to the stack.
        MicroMill mill = room(0004711);
        Check.due("JSR R7, (R1)", mill.step(), 9);
        Check.due("R7", mill.register(7), 200);
        Check.due("peek(998)", mill.peek(998), 2);
        // JSR R6: R6 as it is then comes to the stack, and R6 becomes R7.
        mill = room(0004611);
        Check.due("JSR R6, (R1)", mill.step(), 9);
        Check.due("R6", mill.register(6), 2);
        Check.due("peek(998)", mill.peek(998), 998);
        Check.due("R7", mill.register(7), 200);
        // JSR R5, (R6)+: the address is found before R6 steps down.
        mill = room(0004526);
        Check.due("JSR R5, (R6)+", mill.step(), 9);
        Check.due("R7", mill.register(7), 1000);
        Check.due("R6", mill.register(6), 1000);
        // JSR R1, (R1): the address is R1 as it was.
        mill = room(0004111);
        mill.step();
        Check.due("JSR R1, (R1): R7", mill.register(7), 200);
        Check.due("JSR R1, (R1): R1", mill.register(1), 2);
        Check.due("JSR R1, (R1): stack", mill.peek(998), 200);
    }

    private static void returns() {
        for (int r = 0; r < 6; r++) {
            MicroMill mill = Mills.with(0000200 | r);
            mill.set(r, 444);
            mill.set(6, 500);
            mill.poke(500, 555);
            Mills.giveFlags(mill, 9);
            Check.due("RTS R" + r, mill.step(), 5);
            Check.due("RTS R" + r + ": R7", mill.register(7), 444);
            Check.due("RTS R" + r + ": register", mill.register(r), 555);
            Check.due("RTS R" + r + ": R6", mill.register(6), 502);
            Check.due("RTS R" + r + ": flags", mill.flags(), 9);
        }
        MicroMill mill = Mills.with(0000207);
        mill.set(6, 500);
        mill.poke(500, 555);
        Check.due("RTS R7", mill.step(), 5);
        Check.due("RTS R7: R7", mill.register(7), 555);
        Check.due("RTS R7: R6", mill.register(6), 502);
        mill = Mills.with(0000206);
        mill.set(6, 500);
        mill.poke(500, 555);
        Check.due("RTS R6", mill.step(), 5);
        Check.due("RTS R6: R7", mill.register(7), 500);
        Check.due("RTS R6: R6", mill.register(6), 555);
    }

    private static void returnsStop() {
        int[] stacks = {501, 4096, 65534, 65535};
        int[] stops = {3, 4, 4, 3};
        for (int i = 0; i < stacks.length; i++) {
            MicroMill mill = Mills.with(0000205);
            mill.set(5, 444);
            mill.set(6, stacks[i]);
            Check.due("RTS with R6 " + stacks[i], mill.step(), -1);
            Check.due("stopped()", mill.stopped(), stops[i]);
            Check.due("R7", mill.register(7), 444);
            Check.due("R6", mill.register(6), stacks[i] + 2 & 0xFFFF);
            Check.due("R5", mill.register(5), 444);
        }
    }
}
