import java.util.ArrayList;
import java.util.List;

/** All that an object answers, so that two objects can be told apart by it. */
final class Answers {
    /** The document promises nothing of an object behind this many calls. */
    private static final int PROMISED_CALLS = 512;

    private final TestsFromUse x;
    private final List<String> texts = new ArrayList<>();
    private int calls;

    private Answers(TestsFromUse x, int callsBefore) {
        this.x = x;
        calls = callsBefore;
    }

    /** Compares an object with another one whose answers are due; both are used up by it. */
    static void dueAlike(String name, TestsFromUse got, TestsFromUse want, int callsBefore) {
        List<String> gotTexts = all(got, callsBefore);
        List<String> wantTexts = all(want, callsBefore);
        Check.due(name + ": how many answers", gotTexts.size(), wantTexts.size());
        for (int i = 0; i < Math.min(gotTexts.size(), wantTexts.size()); i++) {
            Check.due(name + ": " + gotTexts.get(i) + ", due is " + wantTexts.get(i),
                gotTexts.get(i).equals(wantTexts.get(i)), true);
        }
    }

    private static List<String> all(TestsFromUse x, int callsBefore) {
        Answers answers = new Answers(x, callsBefore);
        answers.addAll();
        Check.due("a test keeps to the promised calls", answers.calls <= PROMISED_CALLS, true);
        return answers.texts;
    }

    private void add(String call, int answer) {
        calls++;
        texts.add(call + " = " + answer);
    }

    private void addAll() {
        addCounts();
        addLog();
        for (int test = 0; test < x.count(1); test++) {
            addTest(test);
        }
        addMachine();
    }

    private void addCounts() {
        for (int what = 0; what <= 5; what++) {
            add("count(" + what + ")", x.count(what));
        }
        for (int register = 0; register <= 3; register++) {
            add("register(" + register + ")", x.register(register));
        }
        add("reached()", x.reached());
        add("never()", x.never());
        add("fewest()", x.fewest());
        add("chosen()", x.chosen());
    }

    private void addLog() {
        for (int i = 0; i < x.count(0); i++) {
            calls++;
            for (int what = 0; what <= 3; what++) {
                add("logged(" + i + ", " + what + ")", x.logged(i, what));
            }
        }
        calls++;
    }

    private void addTest(int test) {
        calls++;
        for (int what = 0; what <= 5; what++) {
            add("told(" + test + ", " + what + ")", x.told(test, what));
        }
        add("differs(" + test + ")", x.differs(test));
        for (int k = 0; k < x.told(test, 0); k++) {
            calls++;
            for (int what = 0; what <= 3; what++) {
                add("row(" + test + ", " + k + ", " + what + ")", x.row(test, k, what));
            }
        }
        calls++;
    }

    /** The branches can be told by what they do alone, so calls are made, here and from the first state on. */
    private void addMachine() {
        calls++;
        addCallsOfEachKind("on");
        add("run()", x.run());
        add("fresh()", x.fresh());
        addCallsOfEachKind("anew");
        for (int kind = 0; kind <= 5; kind++) {
            add("branch(" + kind + ")", x.branch(kind, 0, 0, 0));
        }
        add("touched", x.count(3));
    }

    private void addCallsOfEachKind(String where) {
        for (int number = 0; number <= 15; number += 5) {
            for (int kind = 0; kind <= 5; kind++) {
                add("call(" + kind + ", " + number + ") " + where, x.call(kind, number));
            }
        }
    }
}
