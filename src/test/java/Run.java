import java.util.ArrayList;
import java.util.Arrays;
import java.util.List;
import java.util.regex.Matcher;
import java.util.regex.Pattern;

/**
 * A run of calls on a new object, written as a text: "town()=0 5*deliver(0,0,9) rule(3)=INVALID 'd0,0,1;' play()=1".
 * Behind "=" stands the answer that is due, or "?" if any is fine; without it any answer is fine that is no error.
 * A number and "*" ahead repeat a call; signs between ' are typed.
 */
final class Run {
    private static final Pattern STEP =
        Pattern.compile("\\s*(?:(\\d+)\\*)?(?:(\\w+)\\(([^)]*)\\)(?:=(\\S+))?|'([^']*)')\\s*");

    private final KinderTowns country = new KinderTowns();
    private final Due due;
    private final String name;
    private final List<Integer> answers = new ArrayList<>();

    private Run(Due due, String name) {
        this.due = due;
        this.name = name;
    }

    /** Plays a run; each answer that is not the one that is due is told by this name. */
    static void play(Due due, String name, String steps) {
        new Run(due, name).steps(steps);
    }

    /** All answers to a run, the due ones of its calls looked at too. */
    static List<Integer> answers(Due due, String name, String steps) {
        Run run = new Run(due, name);
        run.steps(steps);
        return run.answers;
    }

    private void steps(String steps) {
        Matcher step = STEP.matcher(steps);
        int at = 0;
        while (at < steps.length()) {
            if (!step.region(at, steps.length()).lookingAt()) {
                throw new IllegalArgumentException("no call: " + steps.substring(at));
            }
            at = step.end();
            int times = step.group(1) == null ? 1 : Integer.parseInt(step.group(1));
            for (int time = 0; time < times; time++) {
                if (step.group(5) == null) {
                    call(step.group(2), numbers(step.group(3)), step.group(4));
                } else {
                    step.group(5).chars().forEach(sign -> call("type", new int[] {sign}, null));
                }
            }
        }
    }

    private void call(String call, int[] arguments, String want) {
        int got = Calls.on(country, call, arguments);
        answers.add(got);
        String place = name + ": call " + answers.size() + ", " + call + Arrays.toString(arguments);
        if (want == null) {
            due.holds(place + " answered " + got + ", which is no error", got >= 0);
        } else if (!want.equals("?")) {
            due.is(place, got, number(want));
        }
        if (answers.size() > Calls.MOST) {
            throw new IllegalArgumentException("more calls than an object is used for: " + name);
        }
    }

    private static int[] numbers(String arguments) {
        if (arguments.isBlank()) {
            return new int[0];
        }
        return Arrays.stream(arguments.split(",")).mapToInt(each -> number(each.trim())).toArray();
    }

    private static int number(String word) {
        switch (word) {
            case "INVALID": return KinderTowns.INVALID_ARGUMENT;
            case "NOT_POSSIBLE": return KinderTowns.NOT_POSSIBLE;
            case "LIMIT": return KinderTowns.LIMIT_REACHED;
            case "NOT_FOUND": return KinderTowns.NOT_FOUND;
            case "MIN": return Integer.MIN_VALUE;
            case "MAX": return Integer.MAX_VALUE;
            default: return Integer.parseInt(word);
        }
    }
}
