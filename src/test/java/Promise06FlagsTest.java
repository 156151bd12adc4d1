/** Promise 6: flags; and the flags' instructions, 000240 .. 000277. */
public final class Promise06FlagsTest {
    public static void main(String[] args) {
        for (int before = 0; before < 16; before++) {
            for (int named = 0; named < 16; named++) {
                changes(before, named);
            }
        }
        isTheWorksFlags();
        staysWhenStopped();
        Check.end();
    }

    private static void changes(int before, int named) {
        MicroMill mill = Mills.with(0000240 | named, 0000260 | named);
        Mills.giveFlags(mill, before);
        String text = "flags " + before + ", named " + named;
        Check.due(text + ": flags()", mill.flags(), before);
        Check.due(text + ": step() clearing", mill.step(), 3);
        Check.due(text + ": flags() cleared", mill.flags(), before & ~named);
        Mills.giveFlags(mill, before);
        Check.due(text + ": step() setting", mill.step(), 3);
        Check.due(text + ": flags() set", mill.flags(), before | named);
        Check.due(text + ": register(7)", mill.register(7), 4);
    }

    private static void isTheWorksFlags() {
        // COM R0, CLR R0, ADD R1, R1, CMP R0, R0
        MicroMill mill = Mills.with(0005100, 0005000, 0060101, 0020000);
        mill.set(1, 0x8000);
        int[] due = {9, 4, 7, 4};
        for (int i = 0; i < due.length; i++) {
            mill.step();
            Check.due("flags() after instruction " + i, mill.flags(), due[i]);
        }
    }

    private static void staysWhenStopped() {
        for (int flags = 0; flags < 16; flags++) {
            MicroMill mill = Mills.with(0000000);
            Mills.giveFlags(mill, flags);
            mill.step();
            Check.due("flags() of a stopped machine", mill.flags(), flags);
            mill.go();
            Check.due("flags() after go()", mill.flags(), flags);
        }
    }
}
