import java.io.IOException;
import java.nio.file.Files;
import java.nio.file.Path;
import java.util.regex.Matcher;
import java.util.regex.Pattern;

/** The examples of README.md, taken from there: what they say is answered is answered. */
public final class ReadmeTest {
    /** A call of the example, and the number that its comment begins with. */
    private static final Pattern CALL = Pattern.compile("(?m)^heap\\.(\\w+)\\(([^)]*)\\); +// (-?\\d+):");

    public static void main(String[] args) throws IOException {
        String readme = Files.readString(Path.of("README.md"));
        callsAnswerWhatTheirCommentsSay(readme);
        programPrintsWhatIsSaid(readme);
        Check.end("ReadmeTest");
    }

    private static void callsAnswerWhatTheirCommentsSay(String readme) {
        Check.sentence("README.md: heap.");
        TurnerHeap heap = new TurnerHeap(200);
        Matcher calls = CALL.matcher(readme);
        int found = 0;
        while (calls.find()) {
            found++;
            Check.due(calls.group(1), answer(heap, calls.group(1), calls.group(2)), Integer.valueOf(calls.group(3)));
        }
        Check.due("calls with answers", found, 6);
    }

    private static int answer(TurnerHeap heap, String call, String arguments) {
        switch (call) {
            case "write":
                String[] two = arguments.split(", ");
                return heap.write(number(two[0]), (int) number(two[1]));
            case "read":
                return heap.read();
            case "run":
                return heap.run((int) number(arguments));
            case "stopped":
                return heap.stopped();
            case "length":
                return heap.length();
            case "letter":
                return heap.letter((int) number(arguments));
            default:
                throw new IllegalArgumentException("README.md has a call that this test does not know: " + call);
        }
    }

    private static long number(String written) {
        return Long.decode(written.replace("_", "").replace("L", ""));
    }

    private static void programPrintsWhatIsSaid(String readme) {
        Matcher program = Pattern.compile("\n\n((?:    .*\n)+)\nprints `([^`]*)`").matcher(readme);
        boolean found = program.find();
        Check.due("README.md has a program", found, true);
        if (found) {
            TurnerHeap heap = Check.ranOut(400, program.group(1));
            Check.due("README.md: what its program prints", Check.printed(heap), program.group(2));
            Check.due("README.md: how its program stops", heap.stopped(), 1);
        }
    }
}
