/** Every instruction word in several rooms, and programs of mixed words, against the reference. */
public final class EveryInstructionTest {
    /** Few enough words that setting them and looking at them stays within an object's 512 calls. */
    private static final int ROOM = 320;
    private static final int STEPS = 60;
    private static long seed = 20261115;

    private MicroMill mill;
    private ReferenceMill reference;

    public static void main(String[] args) {
        for (int word = 0; word < 65536; word++) {
            for (int kind = 0; kind < 4; kind++) {
                new EveryInstructionTest().oneWord(word, kind);
            }
        }
        for (int i = 0; i < 20_000; i++) {
            new EveryInstructionTest().program(i % 4);
        }
        Check.end();
    }

    /** The same numbers in every run of the test. */
    private static int next(int below) {
        seed = seed * 6364136223846793005L + 1442695040888963407L;
        return (int) Math.floorMod(seed >>> 33, (long) below);
    }

    private void make(int kind) {
        mill = new MicroMill();
        reference = new ReferenceMill();
        int flags = next(16);
        Mills.giveFlags(mill, flags);
        reference.n = flags / 8;
        reference.z = flags / 4 % 2;
        reference.v = flags / 2 % 2;
        reference.c = flags % 2;
        reference.cycles = mill.cycles();
        for (int address = 0; address < ROOM; address += 2) {
            poke(address, wordOf(kind));
        }
        for (int r = 0; r < 8; r++) {
            set(r, r == 7 ? codeAddress() : wordOf(kind));
        }
    }

    /** Mostly in the room, but sometimes so near to memory's end that an index word lies beyond it. */
    private static int codeAddress() {
        return next(8) == 0 ? 4094 - 2 * next(2) : 2 * next(ROOM / 2);
    }

    /** Words that are good addresses, any addresses, instructions, or edges. */
    private int wordOf(int kind) {
        int[] edges = {0, 1, 2, 127, 128, 255, 256, 4094, 4095, 4096, 4097, 32767, 32768, 65280, 65534, 65535};
        return switch (kind == 3 ? next(4) : kind) {
            case 0 -> 2 * next(ROOM / 2);
            case 1 -> next(4) == 0 ? edges[next(edges.length)] : next(ROOM);
            case 2 -> next(65536);
            default -> next(2) == 0 ? next(65536) : 2 * next(ROOM / 2);
        };
    }

    private void poke(int address, int value) {
        mill.poke(address, value);
        reference.putWord(address, value);
    }

    private void set(int r, int value) {
        mill.set(r, value);
        reference.r[r] = value;
    }

    private void oneWord(int word, int kind) {
        make(kind);
        poke(reference.r[7], word);
        String text = Mills.octal(word) + " in room " + kind;
        Check.due(text + ": step()", mill.step(), reference.step());
        compare(text);
    }

    private void program(int kind) {
        make(kind == 1 ? 3 : kind);
        for (int i = 0; i < STEPS; i++) {
            if (i % 3 == 0 || reference.stopped != 0) {
                mill.go();
                reference.stopped = 0;
                int at = codeAddress();
                set(7, at);
                poke(at, next(65536));
            }
            Check.due("a program's step()", mill.step(), reference.step());
        }
        compare("a program");
    }

    private void compare(String text) {
        Check.due(text + ": stopped()", mill.stopped(), reference.stopped);
        Check.due(text + ": flags()", mill.flags(), reference.flags());
        Check.due(text + ": cycles()", mill.cycles(), reference.cycles);
        for (int r = 0; r < 8; r++) {
            Check.due(text + ": register(" + r + ")", mill.register(r), reference.r[r]);
        }
        // A program may take the most calls: what is looked at is a part of the room.
        for (int address = next(4) * 2; address < ROOM; address += 8) {
            comparePlace(text, address);
        }
        for (int address = 4086; address < 4096; address += 2) {
            comparePlace(text, address);
        }
    }

    private void comparePlace(String text, int address) {
        Check.due(text + ": peek(" + address + ")", mill.peek(address), reference.wordAt(address));
    }
}
