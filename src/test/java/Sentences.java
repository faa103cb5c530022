import java.io.IOException;
import java.nio.file.Files;
import java.nio.file.Path;
import java.util.ArrayList;
import java.util.List;

/** Tests of single sentences of the document. A test says the words, under their heading, so that they can be found. */
final class Sentences {
    // Behind these numbers a set of bits, a byte and a short begin anew.
    private static final int[] AROUND = {32, 64, 256, 65536, Integer.MIN_VALUE};

    private final Due due;
    private final List<String> lines;
    private String heading = "";
    private String section = "";

    Sentences(Due due, String document) throws IOException {
        this.due = due;
        lines = Files.readAllLines(Path.of(document));
    }

    /** What follows stands in the document under this heading. */
    void under(String words) {
        heading = words;
        StringBuilder text = new StringBuilder();
        boolean inside = false;
        for (String line : lines) {
            if (line.startsWith("#")) {
                inside = line.replaceFirst("^#+ ", "").equals(words);
            }
            text.append(inside ? line + "\n" : "");
        }
        section = text.toString();
        due.holds("the document has the heading " + words, !section.isEmpty());
    }

    /** The document says these words; each of the runs shows that they hold. */
    void says(String words, String... runs) {
        due.holds(heading + " says \"" + words + "\"", section.contains(words));
        due.holds("\"" + words + "\" is shown by a run", runs.length > 0);
        for (String run : runs) {
            Run.play(due, heading + ", \"" + words + "\"", run);
        }
    }

    /**
     * Runs in which the argument that # stands for goes from the lowest to the highest number:
     * both are fine, one less and one more are wrong, and so are those that lie far outside.
     */
    static String[] range(String ahead, String call, int lowest, int highest) {
        List<String> runs = new ArrayList<>();
        runs.add(ahead + " " + call.replace("#", "" + lowest));
        runs.add(ahead + " " + call.replace("#", "" + highest));
        runs.add(outside(ahead, call, lowest, highest));
        return runs.toArray(new String[0]);
    }

    /** The wrong numbers alone, for calls that answer otherwise by each right one. */
    static String outside(String ahead, String call, int lowest, int highest) {
        StringBuilder run = new StringBuilder(ahead);
        List<Integer> wrong = new ArrayList<>(List.of(lowest - 1, highest + 1, Integer.MIN_VALUE, Integer.MAX_VALUE));
        for (int step : AROUND) {
            if (lowest + step < lowest || lowest + step > highest) {
                wrong.add(lowest + step);
            }
        }
        for (int number : wrong) {
            run.append(' ').append(call.replace("#", "" + number)).append("=INVALID");
        }
        return run.toString();
    }
}
