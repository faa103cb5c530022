import java.io.IOException;
import java.util.ArrayList;
import java.util.List;

/**
 * "A call that returns an error changes nothing.": behind each refused call all answers are as they are without
 * it, and so they are behind each undo. The calls that only ask are looked at likewise.
 */
public final class RefusalTest {
    private static final Due DUE = new Due();
    /** Five towns that know different things, with two apologies, and a text that has no fault. */
    private static final String LIVELY = "5*town() deliver(0,0,10)=0 order(0,1,0,8)=1 order(0,2,0,3)=2 hear(1,0) order(3,4,5,6)=3"
        + " cancel(0,2)=4 order(1,9,0,1)=5 rule(1) meet(0,1) hear(2,1) 'o4,3,2,1;m4,3;' ";
    private static final String SIXTY = "town() town() order(0,3,2,1) 58*deliver(0,2,1) order(0,4,2,99)=59 hear(1,0) ";

    public static void main(String[] args) throws IOException {
        Sentences doc = new Sentences(DUE, args[1]);
        doc.under("Changes and errors");
        doc.says("A call that returns an error changes nothing.", "rule(3)=INVALID count(9)=0 count(5)=0");
        nothingChanges("", "deliver(0,0,1)=INVALID", "order(0,0,0,1)=INVALID", "cancel(0,0)=INVALID",
            "meet(0,1)=INVALID", "hear(0,1)=INVALID", "rule(3)=INVALID", "undo()=NOT_POSSIBLE", "type(127)=INVALID",
            "fault(2)=INVALID", "fault(0)=NOT_FOUND");
        nothingChanges("type(120)", "play()=NOT_POSSIBLE", "type(31)=INVALID");
        nothingChanges(LIVELY, "town()=LIMIT", "deliver(5,0,1)=INVALID", "deliver(0,6,1)=INVALID", "deliver(0,0,100)=INVALID",
            "deliver(0,0,0)=INVALID", "order(5,0,0,1)=INVALID", "order(0,10,0,1)=INVALID", "order(0,0,6,1)=INVALID",
            "order(0,0,0,0)=INVALID", "order(0,0,0,100)=INVALID", "cancel(5,1)=INVALID", "cancel(0,6)=INVALID",
            "cancel(0,0)=NOT_POSSIBLE", "cancel(0,2)=NOT_POSSIBLE", "cancel(4,1)=NOT_POSSIBLE", "cancel(0,4)=NOT_POSSIBLE",
            "meet(0,0)=INVALID", "meet(0,5)=INVALID", "meet(-1,0)=INVALID", "hear(4,4)=INVALID", "hear(5,0)=INVALID",
            "hear(0,-1)=INVALID", "rule(3)=INVALID", "rule(-1)=INVALID");
        nothingChanges(LIVELY, "eventOf(6,0)=INVALID", "eventOf(0,9)=INVALID", "eventOf(0,6)=NOT_FOUND", "thinks(5,0)=INVALID",
            "thinks(0,0)=NOT_POSSIBLE", "thinks(4,1)=NOT_FOUND", "townOf(0,8)=INVALID", "goodOf(0,6,0)=INVALID",
            "lookedAt(0,0,-1)=INVALID", "lookedAt(0,0,9)=NOT_FOUND", "personOf(0,0,4)=INVALID", "unheard(0,5)=INVALID",
            "count(11)=INVALID", "would(0,0,0)=INVALID", "would(0,3,3)=INVALID", "wouldRule(3)=INVALID", "kindest(2)=INVALID",
            "type(127)=INVALID", "fault(2)=INVALID", "fault(1)=NOT_FOUND");
        nothingChanges(LIVELY + "'d0,0,9;r1;r3;'", "play()=NOT_POSSIBLE", "fault(0)=24");
        nothingChanges(LIVELY + "'d0,0,9;c0,0;'", "play()=NOT_POSSIBLE", "fault(1)=3");
        nothingChanges(LIVELY + "66*' '", "type(32)=LIMIT", "play()=NOT_POSSIBLE");
        nothingChanges(SIXTY, "deliver(0,0,1)=LIMIT", "order(0,0,0,1)=LIMIT", "cancel(0,0)=LIMIT", "cancel(1,1)=NOT_POSSIBLE");
        nothingChanges(SIXTY + "'r2;d0,0,1;'", "play()=NOT_POSSIBLE");
        nothingChanges(LIVELY, "would(0,3,0)", "would(4,3,2)", "wouldRule(0)", "wouldRule(2)", "kindest(0)", "rounds()",
            "fault(0)=NOT_FOUND", "lookedAt(0,0,0)", "goodOf(0,0,3)", "personOf(1,1,3)", "eventOf(1,8)", "townOf(0,7)", "unheard(0,3)");
        DUE.end();
    }

    private static void nothingChanges(String ahead, String... calls) {
        for (String call : calls) {
            compare(ahead, call);
        }
    }

    private static void compare(String ahead, String call) {
        String name = "behind " + ahead + ", " + call;
        List<Integer> numbers = Run.answers(DUE, name, ahead + " count(0) count(1) count(9)");
        int states = last(numbers, 1);
        String undone = "";
        for (int undos = 0; undos <= states; undos++) {
            List<Integer> then = Run.answers(DUE, name, ahead + undone + " count(0) count(1) count(9)");
            List<String> parts = inParts(questions(last(then, 3), last(then, 2)), Calls.MOST - then.size());
            parts.add(" play()=? count(1)=? count(5)=? count(6)=? count(9)=? clearText()=? undo()=? count(1)=? count(9)=?");
            for (String some : parts) {
                List<Integer> without = answersTo(name, ahead, undone, some);
                List<Integer> with = answersTo(name, ahead, " " + call + undone, some);
                DUE.holds(name + undone + " changes nothing of" + some, with.equals(without));
            }
            undone += " undo()";
        }
    }

    private static int last(List<Integer> answers, int place) {
        return answers.get(answers.size() - place);
    }

    /** The answers to the questions alone. */
    private static List<Integer> answersTo(String name, String ahead, String calls, String questions) {
        List<Integer> answers = Run.answers(DUE, name, ahead + calls + questions);
        int asked = questions.length() - questions.replace("(", "").length();
        return answers.subList(answers.size() - asked, answers.size());
    }

    private static List<String> inParts(List<String> questions, int most) {
        List<String> parts = new ArrayList<>();
        for (int from = 0; from < questions.size(); from += most) {
            parts.add(" " + String.join(" ", questions.subList(from, Math.min(questions.size(), from + most))));
        }
        return parts;
    }

    /** Everything that can be asked of so many towns and events. */
    private static List<String> questions(int towns, int events) {
        List<String> all = new ArrayList<>();
        add(all, "count(%d)", 11);
        add(all, "eventOf(%d,%d)", events, 9);
        add(all, "thinks(%d,%d)", towns, events);
        add(all, "townOf(%d,%d)", towns, 8);
        add(all, "goodOf(%d,%d,%d)", towns, 6, 4);
        add(all, "lookedAt(%d,%d,%d)", towns, 6, 8);
        add(all, "personOf(%d,%d,%d)", towns, 10, 4);
        add(all, "unheard(%d,%d)", towns, towns);
        add(all, "would(%d,%d,%d)", towns, towns, 3);
        add(all, "wouldRule(%d)", 3);
        add(all, "kindest(%d)", 2);
        add(all, "fault(%d)", 2);
        all.add("rounds()=?");
        return all;
    }

    private static void add(List<String> all, String call, int... ends) {
        int[] a = new int[3];
        int asked = 1;
        for (int end : ends) {
            asked *= end;
        }
        for (int number = 0; number < asked; number++) {
            int rest = number;
            for (int place = 0; place < ends.length; place++) {
                a[place] = rest % ends[place];
                rest /= ends[place];
            }
            all.add(String.format(call, a[0], a[1], a[2]) + "=?");
        }
    }
}
