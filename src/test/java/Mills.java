/** Machines made ready for a test. */
final class Mills {
    private static final int FLAG_CODE = 4090;

    private Mills() {
    }

    /** A new machine with words from address 0 on; it is about to do the first. */
    static MicroMill with(int... words) {
        MicroMill mill = new MicroMill();
        for (int i = 0; i < words.length; i++) {
            mill.poke(2 * i, words[i]);
        }
        return mill;
    }

    /** Gives a machine flags by way of its own instructions; R7 and memory stay. */
    static void giveFlags(MicroMill mill, int flags) {
        int next = mill.register(7);
        int first = mill.peek(FLAG_CODE);
        int second = mill.peek(FLAG_CODE + 2);
        mill.poke(FLAG_CODE, 0000257);
        mill.poke(FLAG_CODE + 2, 0000260 | flags);
        mill.set(7, FLAG_CODE);
        Check.due("run(2) of the flags' instructions", mill.run(2), 2);
        mill.set(7, next);
        mill.poke(FLAG_CODE, first);
        mill.poke(FLAG_CODE + 2, second);
    }

    static String octal(int word) {
        return String.format("%06o", word);
    }
}
