/** Promises 2 and 3: poke and peek. */
public final class Promise02And03MemoryTest {
    private static final int[] ODD = {1, 3, 4093, 4095, 4097, 65535, Integer.MAX_VALUE, -1, -3, Integer.MIN_VALUE + 1};
    private static final int[] BEYOND = {
        4096, 4098, 8192, 65534, 65536, 65538, Integer.MAX_VALUE - 1, -2, -4, -4096, -65536, Integer.MIN_VALUE,
    };

    public static void main(String[] args) {
        keepsLowestBits();
        keepsEveryWord();
        hasItsEnds();
        pokeRefusesOddAddresses();
        pokeRefusesWhatIsBeyond();
        peekHasNoneAtOddAddresses();
        peekHasNoneBeyond();
        changesNothingElse();
        peeksWhatInstructionsPut();
        peeksAllSixteenBits();
        worksWhenStopped();
        Check.end();
    }

    private static void keepsLowestBits() {
        MicroMill mill = new MicroMill();
        int[] values = {
            0, 1, 32767, 32768, 65535, 65536, 65537, 131071, -1, -2, -32768, -32769, -65535, -65536,
            Integer.MAX_VALUE, Integer.MIN_VALUE, 0x12345678,
        };
        int[] kept = {0, 1, 32767, 32768, 65535, 0, 1, 65535, 65535, 65534, 32768, 32767, 1, 0, 65535, 0, 0x5678};
        for (int i = 0; i < values.length; i++) {
            Check.due("poke(10, " + values[i] + ")", mill.poke(10, values[i]), true);
            Check.due("peek(10) after poke(10, " + values[i] + ")", mill.peek(10), kept[i]);
            Check.due("peek(8) after poke(10, " + values[i] + ")", mill.peek(8), 0);
            Check.due("peek(12) after poke(10, " + values[i] + ")", mill.peek(12), 0);
        }
    }

    private static void keepsEveryWord() {
        for (int from = 0; from < 4096; from += 400) {
            MicroMill mill = new MicroMill();
            int end = Math.min(from + 400, 4096);
            for (int address = from; address < end; address += 2) {
                Check.due("poke(" + address + ")", mill.poke(address, address + 30000), true);
            }
            for (int address = from; address < end; address += 2) {
                Check.due("peek(" + address + ")", mill.peek(address), address + 30000);
            }
        }
    }

    private static void hasItsEnds() {
        MicroMill mill = new MicroMill();
        Check.due("poke(0, 11)", mill.poke(0, 11), true);
        Check.due("poke(4094, 12)", mill.poke(4094, 12), true);
        Check.due("poke(-2, 13)", mill.poke(-2, 13), false);
        Check.due("poke(4096, 14)", mill.poke(4096, 14), false);
        Check.due("peek(0)", mill.peek(0), 11);
        Check.due("peek(4094)", mill.peek(4094), 12);
        Check.due("peek(-2)", mill.peek(-2), -1);
        Check.due("peek(4096)", mill.peek(4096), -1);
    }

    private static void pokeRefusesOddAddresses() {
        for (int address : ODD) {
            pokeRefuses(address);
        }
    }

    private static void pokeRefusesWhatIsBeyond() {
        for (int address : BEYOND) {
            pokeRefuses(address);
        }
    }

    /** A refused call changes no word, neither beside it nor where its lowest bits would lead. */
    private static void pokeRefuses(int address) {
        MicroMill mill = new MicroMill();
        int[] near = {0, 2, 4092, 4094, address & 4094, address - 1 & 4094, address + 1 & 4094};
        for (int place : near) {
            mill.poke(place, place + 1);
        }
        Check.due("poke(" + address + ", 5)", mill.poke(address, 5), false);
        for (int place : near) {
            Check.due("peek(" + place + ") after poke(" + address + ", 5)", mill.peek(place), place + 1);
        }
        Check.due("stopped() after poke(" + address + ", 5)", mill.stopped(), 0);
    }

    private static void peekHasNoneAtOddAddresses() {
        for (int address : ODD) {
            peekHasNone(address);
        }
    }

    private static void peekHasNoneBeyond() {
        for (int address : BEYOND) {
            peekHasNone(address);
        }
    }

    private static void peekHasNone(int address) {
        MicroMill mill = new MicroMill();
        mill.poke(address & 4094, 5);
        Check.due("peek(" + address + ")", mill.peek(address), MicroMill.NONE);
        Check.due("stopped() after peek(" + address + ")", mill.stopped(), 0);
    }

    private static void changesNothingElse() {
        MicroMill mill = new MicroMill();
        for (int r = 0; r < 8; r++) {
            mill.set(r, 300 + r);
        }
        Mills.giveFlags(mill, 9);
        long cycles = mill.cycles();
        mill.poke(0, 77);
        mill.poke(300, 78);
        mill.poke(301, 79);
        mill.peek(0);
        mill.peek(4096);
        for (int r = 0; r < 8; r++) {
            Check.due("register(" + r + ") after poke and peek", mill.register(r), 300 + r);
        }
        Check.due("flags() after poke and peek", mill.flags(), 9);
        Check.due("cycles() after poke and peek", mill.cycles(), cycles);
        Check.due("stopped() after poke and peek", mill.stopped(), 0);
    }

    private static void peeksWhatInstructionsPut() {
        // MOV R0, (R1); MOVB R2, (R3): both bytes of a word, the low one first.
        MicroMill mill = Mills.with(0010011, 0110213);
        mill.set(0, 65535);
        mill.set(1, 4094);
        mill.set(2, 0x12);
        mill.set(3, 4095);
        mill.step();
        Check.due("peek(4094) after MOV", mill.peek(4094), 65535);
        mill.step();
        Check.due("peek(4094) after MOVB at 4095", mill.peek(4094), 0x12FF);
    }

    private static void peeksAllSixteenBits() {
        MicroMill mill = new MicroMill();
        for (int bit = 0; bit < 16; bit++) {
            mill.poke(2 * bit, 1 << bit);
        }
        for (int bit = 0; bit < 16; bit++) {
            Check.due("peek(" + 2 * bit + ")", mill.peek(2 * bit), 1 << bit);
        }
    }

    private static void worksWhenStopped() {
        MicroMill mill = new MicroMill();
        mill.step();
        Check.due("stopped()", mill.stopped(), 1);
        Check.due("poke(4094, 9)", mill.poke(4094, 9), true);
        Check.due("peek(4094)", mill.peek(4094), 9);
        Check.due("poke(4096, 9)", mill.poke(4096, 9), false);
        Check.due("stopped()", mill.stopped(), 1);
    }
}
