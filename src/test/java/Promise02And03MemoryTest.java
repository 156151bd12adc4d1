/** Promises 2 and 3: poke and peek. */
public final class Promise02And03MemoryTest {
    private static final int[] THERE_IS_NONE = {
        1, 3, 4093, 4095, 4096, 4097, 4098, 65534, 65535, 65536, -1, -2, -4096,
        Integer.MAX_VALUE, Integer.MAX_VALUE - 1, Integer.MIN_VALUE, Integer.MIN_VALUE + 1,
    };

    public static void main(String[] args) {
        keepsLowestBits();
        keepsEveryWord();
        refusesOddAndBeyond();
        hasLowByteFirst();
        worksWhenStopped();
        Check.end();
    }

    private static void keepsLowestBits() {
        MicroMill mill = new MicroMill();
        int[] values = {0, 1, 32767, 32768, 65535, 65536, 65537, -1, -2, -32768, Integer.MAX_VALUE, Integer.MIN_VALUE, 0x12345678};
        int[] kept = {0, 1, 32767, 32768, 65535, 0, 1, 65535, 65534, 32768, 65535, 0, 0x5678};
        for (int i = 0; i < values.length; i++) {
            Check.due("poke(10, " + values[i] + ")", mill.poke(10, values[i]), true);
            Check.due("peek(10) after poke(10, " + values[i] + ")", mill.peek(10), kept[i]);
        }
        Check.due("peek(8)", mill.peek(8), 0);
        Check.due("peek(12)", mill.peek(12), 0);
    }

    private static void keepsEveryWord() {
        for (int from = 0; from < 4096; from += 400) {
            MicroMill mill = new MicroMill();
            int end = Math.min(from + 400, 4096);
            for (int address = from; address < end; address += 2) {
                Check.due("poke(" + address + ")", mill.poke(address, address + 30000), true);
            }
            for (int address = from; address < end; address += 2) {
                Check.due("peek(" + address + ")", mill.peek(address), address + 30000);
            }
        }
    }

    private static void refusesOddAndBeyond() {
        MicroMill mill = new MicroMill();
        for (int address : THERE_IS_NONE) {
            Check.due("poke(" + address + ", 5)", mill.poke(address, 5), false);
            Check.due("peek(" + address + ")", mill.peek(address), -1);
        }
        for (int address = 0; address < 6; address += 2) {
            Check.due("peek(" + address + ") after refusals", mill.peek(address), 0);
        }
        Check.due("peek(4092) after refusals", mill.peek(4092), 0);
        Check.due("peek(4094) after refusals", mill.peek(4094), 0);
        Check.due("stopped() after refusals", mill.stopped(), 0);
    }

    private static void hasLowByteFirst() {
        // MOVB (R1), R0; MOVB (R2), R3
        MicroMill mill = Mills.with(0111100, 0111203);
        mill.set(1, 100);
        mill.set(2, 101);
        mill.poke(100, 0x1234);
        mill.run(2);
        Check.due("MOVB of the low byte", mill.register(0), 0x34);
        Check.due("MOVB of the high byte", mill.register(3), 0x12);
    }

    private static void worksWhenStopped() {
        MicroMill mill = new MicroMill();
        mill.step();
        Check.due("stopped()", mill.stopped(), 1);
        Check.due("poke(4094, 9)", mill.poke(4094, 9), true);
        Check.due("peek(4094)", mill.peek(4094), 9);
        Check.due("stopped()", mill.stopped(), 1);
    }
}
