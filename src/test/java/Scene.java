import java.util.Map;
import java.util.TreeMap;

/**
 * A machine made ready for one sentence of the document, and the state that is due. A test names what an
 * instruction changes; all else that was made ready has to stay, and so have the words beside it.
 */
final class Scene {
    private final String sentence;
    private final MicroMill mill = new MicroMill();
    private final int[] registers = new int[8];
    private final Map<Integer, Integer> words = new TreeMap<>();
    private String done = "at first";
    private int flags = 0;
    private int stopped = 0;
    private long cycles = 0;

    private Scene(String sentence) {
        this.sentence = sentence;
    }

    /** A new machine with a program from address 0 on. */
    static Scene of(String sentence, int... program) {
        return new Scene(sentence).program(0, program);
    }

    /** Puts a program, and R7 to its start. */
    Scene program(int start, int... program) {
        for (int i = 0; i < program.length; i++) {
            word(start + 2 * i, program[i]);
        }
        return reg(7, start);
    }

    Scene word(int address, int v) {
        due("poke(" + address + ", " + v + ")", mill.poke(address, v) ? 1 : 0, 1);
        words.put(address, v);
        return this;
    }

    Scene reg(int r, int v) {
        due("set(" + r + ", " + v + ")", mill.set(r, v) ? 1 : 0, 1);
        registers[r] = v;
        return this;
    }

    Scene flags(int given) {
        Mills.giveFlags(mill, given);
        flags = given;
        cycles = mill.cycles();
        return this;
    }

    /** An instruction that is done to its end. */
    Scene step(int took) {
        fetch();
        due("step()", mill.step(), took);
        cycles += took;
        return this;
    }

    /** An instruction that stops. */
    Scene stop(int reason) {
        fetch();
        due("step()", mill.step(), MicroMill.NONE);
        stopped = reason;
        return this;
    }

    private void fetch() {
        int word = mill.peek(registers[7]);
        done = (word == MicroMill.NONE ? "" : Mills.octal(word) + " ") + "at " + registers[7];
        registers[7] = registers[7] + 2 & 0xFFFF;
    }

    Scene nowReg(int r, int v) {
        registers[r] = v;
        return this;
    }

    Scene nowWord(int address, int v) {
        words.put(address, v);
        return this;
    }

    Scene nowFlags(int v) {
        flags = v;
        return this;
    }

    Scene andNoMore() {
        for (int r = 0; r < 8; r++) {
            due("register(" + r + ")", mill.register(r), registers[r]);
        }
        for (int address : words.keySet()) {
            lookAt(address - 2);
            lookAt(address);
            lookAt(address + 2);
        }
        due("flags()", mill.flags(), flags);
        due("stopped()", mill.stopped(), stopped);
        due("cycles()", mill.cycles(), cycles);
        return this;
    }

    private void lookAt(int address) {
        if (address >= 0 && address < 4096) {
            due("peek(" + address + ")", mill.peek(address), words.getOrDefault(address, 0));
        }
    }

    private void due(String call, long got, long want) {
        Check.due("\"" + sentence + "\": " + done + ": " + call, got, want);
    }
}
