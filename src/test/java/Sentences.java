import java.io.IOException;
import java.nio.file.Files;
import java.nio.file.Path;
import java.util.ArrayList;
import java.util.HashMap;
import java.util.List;
import java.util.Map;

/** Runs tests that are named by sentences of the document: each sentence must stand there, and have a check. */
final class Sentences {
    static final Class<?> NO_INDEX = IndexOutOfBoundsException.class;
    static final Class<?> BAD = IllegalArgumentException.class;
    static final Class<?> STATE = IllegalStateException.class;

    interface Bench {
        Diffractory make();
    }

    interface Call {
        void on(Diffractory x);
    }

    private final Map<String, List<String>> document = new HashMap<>();
    private final List<String> said = new ArrayList<>();
    private String heading = "";
    private String sentence = "";
    private int checks = 1;
    private int wrong = 0;

    Sentences() {
        for (String line : linesOfDocument()) {
            if (line.startsWith("## ")) {
                heading = line.substring(3).split(":")[0];
            }
            document.computeIfAbsent(heading, h -> new ArrayList<>()).add(line.strip());
        }
    }

    private static List<String> linesOfDocument() {
        try {
            return Files.readAllLines(Path.of("../shared/DOC.md"));
        } catch (IOException e) {
            throw new IllegalStateException(e);
        }
    }

    void under(String newHeading) {
        heading = newHeading;
    }

    /** From here on checks are those of this sentence. */
    void says(String newSentence) {
        endSentence();
        sentence = newSentence;
        checks = 0;
        said.add(heading + ": " + sentence);
        String text = String.join(" ", document.getOrDefault(heading, List.of()));
        if (!text.replaceAll("\\s+", " ").contains(sentence)) {
            tell("is not in the document under " + heading);
        }
    }

    private void endSentence() {
        if (checks == 0) {
            tell("has no check");
        }
    }

    private void tell(String what) {
        wrong++;
        System.out.println(heading + ", \"" + sentence + "\": " + what);
    }

    void is(String call, long got, long due) {
        checks++;
        if (got != due) {
            tell(call + " answered " + got + ", due is " + due);
        }
    }

    void is(String call, boolean got, boolean due) {
        is(call, got ? 1 : 0, due ? 1 : 0);
    }

    /** Tells 0.0 from -0.0. */
    void isDouble(String call, double got, double due) {
        checks++;
        if (Double.compare(got, due) != 0) {
            tell(call + " answered " + got + ", due is " + due);
        }
    }

    void isText(String call, String got, String due) {
        checks++;
        if (!got.equals(due)) {
            tell(call + " answered " + got + ", due is " + due);
        }
    }

    void refuses(String call, Class<?> due, Bench bench, Call run) {
        checks++;
        Class<?> got = whatItThrows(bench.make(), run);
        if (got != due) {
            tell(call + " threw " + got + ", due is " + due);
        }
    }

    void takes(String call, Bench bench, Call run) {
        refuses(call, null, bench, run);
    }

    /** The call, whether it throws or not, leaves the bench as it was. */
    void keeps(String call, Class<?> due, Bench bench, Call run) {
        Diffractory x = bench.make();
        checks++;
        if (whatItThrows(x, run) != due) {
            tell(call + " did not throw " + due);
        }
        isText(call + ": the bench", Benches.stateOf(x), Benches.stateOf(bench.make()));
    }

    private static Class<?> whatItThrows(Diffractory x, Call run) {
        try {
            run.on(x);
            return null;
        } catch (RuntimeException e) {
            return e.getClass();
        }
    }

    /** What is one below, one above and far outside of a range. */
    static int[] outside(int least, int most) {
        return new int[] {least - 1, most + 1, Integer.MIN_VALUE, Integer.MAX_VALUE};
    }

    /** Each line of the document that tells what a promise returns or throws must have been tested. */
    void allPromisesAreTested() {
        for (Map.Entry<String, List<String>> section : document.entrySet()) {
            for (String line : section.getValue()) {
                boolean isPromised = line.startsWith("Returns ") || line.startsWith("Throws ");
                if (isPromised && !said.contains(section.getKey() + ": " + line)) {
                    wrong++;
                    System.out.println(section.getKey() + ", \"" + line + "\": has no test");
                }
            }
        }
    }

    void end() {
        endSentence();
        System.out.println(said.size() + " sentences tested, " + wrong + " answers are not as due");
        if (wrong != 0 || said.isEmpty()) {
            System.exit(1);
        }
    }
}
