import java.io.IOException;
import java.nio.file.Files;
import java.nio.file.Path;
import java.util.ArrayList;
import java.util.List;

/** The example of README.md, line by line: it answers what the comment behind each call says. */
public final class ReadmeTest {
    private static final String CALL = "mill.";

    private final MicroMill mill = new MicroMill();
    private final List<String> lines;
    private int at = 0;

    private ReadmeTest(List<String> lines) {
        this.lines = lines;
    }

    /** It runs in the project's directory, as .ci/run does. */
    public static void main(String[] args) throws IOException {
        new ReadmeTest(callsOf(Files.readAllLines(Path.of("README.md")))).example();
        Check.end();
    }

    private static List<String> callsOf(List<String> readme) {
        List<String> calls = new ArrayList<>();
        for (String line : readme) {
            if (line.startsWith(CALL)) {
                calls.add(line);
            }
        }
        return calls;
    }

    private void example() {
        same("poke(0, 0012700)", mill.poke(0, 0012700));
        same("poke(2, 5)", mill.poke(2, 5));
        same("poke(4, 0060001)", mill.poke(4, 0060001));
        same("poke(6, 0077002)", mill.poke(6, 0077002));
        same("poke(8, 0000000)", mill.poke(8, 0000000));
        same("step()", mill.step());
        same("flags()", mill.flags());
        same("run(100)", mill.run(100));
        same("register(1)", mill.register(1));
        same("stopped()", mill.stopped());
        same("step()", mill.step());
        same("cycles()", mill.cycles());
        same("go()", mill.go());
        Check.due("calls in the example", lines.size(), at);
    }

    /** The example's next line is this call, and its comment begins with this answer. */
    private void same(String call, Object answer) {
        String line = at < lines.size() ? lines.get(at) : "";
        at++;
        Check.due("README.md has " + call + " as call " + at, line.startsWith(CALL + call + ";"), true);
        boolean told = line.matches(".*// " + answer + "($|[^0-9].*)");
        Check.due("README.md tells that " + call + " answers " + answer, told, true);
    }
}
