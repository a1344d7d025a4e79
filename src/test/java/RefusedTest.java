import java.util.function.ToIntFunction;

/**
 * "What is refused changes nothing": behind each refused call an object answers as one that was
 * never asked. The same holds for what only asks.
 */
public final class RefusedTest {
    private static final int NONE = TestsFromUse.NONE;

    /** Outside of every range; some come inside again once they are shifted or multiplied. */
    private static final int[] OUTSIDE = {
        -1, -2, -16, 24, 25, 31, 32, 33, 64, 200, 256, 1 << 24, 1 << 28, 1 << 29, 1 << 30,
        -(1 << 28), -(1 << 30), Integer.MIN_VALUE, Integer.MIN_VALUE + 1, Integer.MAX_VALUE,
    };
    private static final int LIVED_CALLS = 23;

    public static void main(String[] args) {
        theObjectIsLivedIn();
        branch();
        change();
        call();
        logged();
        make();
        drop();
        told();
        row();
        differs();
        accept();
        register();
        count();
        askingChangesNothing();
        Check.end();
    }

    /**
     * Kind 0 is full, kind 1 has two branches, kind 5 one, the others none. Test 0 is touched and
     * broken, test 1 broken, test 2 touched, test 3 neither.
     */
    private static TestsFromUse livedIn() {
        TestsFromUse x = new TestsFromUse();
        x.branch(0, 2, 1001, 0);
        x.branch(0, 102, 1102, 0);
        x.branch(0, 212, 1, 0);
        x.branch(0, 3, 1100, 0);
        x.branch(1, 3100, 10100, 1);
        x.branch(1, 3200, 10200, 1);
        x.branch(5, 1205, 32103, 3);
        x.call(0, 3);
        x.call(1, 7);
        x.call(5, 4);
        x.call(2, 0);
        x.call(0, 9);
        x.call(0, 5);
        x.make(4);
        x.make(2);
        x.make(0);
        x.make(3);
        x.change(20, 1205, 32104, 3);
        x.change(0, 2, 1002, 0);
        x.run();
        x.accept(2);
        x.change(0, 2, 1001, 0);
        x.change(1, 102, 1103, 0);
        return x;
    }

    private static void theObjectIsLivedIn() {
        int[][] marks = {{1, 1}, {0, 1}, {1, 0}, {0, 0}};
        TestsFromUse x = livedIn();
        Check.due("tests", x.count(1), marks.length);
        for (int test = 0; test < marks.length; test++) {
            Check.due("test " + test + " is touched", x.told(test, 1), marks[test][0]);
            Check.due("test " + test + " is broken", x.told(test, 2), marks[test][1]);
        }
        Check.due("calls", x.count(0), 6);
        Check.due("branches", x.count(2), 7);
    }

    private static void refused(String name, int due, ToIntFunction<TestsFromUse> call) {
        TestsFromUse x = livedIn();
        Check.due(name, call.applyAsInt(x), due);
        Answers.dueAlike("behind " + name, x, livedIn(), LIVED_CALLS + 1);
    }

    private static void refusedBranch(int kind, int when, int then, int result) {
        refused("branch(" + kind + ", " + when + ", " + then + ", " + result + ")", NONE,
            x -> x.branch(kind, when, then, result));
    }

    /** "NONE if there is no such KIND, it can't be, or there are 4." */
    private static void branch() {
        refusedBranch(0, 3100, 10, 0);
        refusedBranch(6, 3100, 10, 0);
        for (int kind : OUTSIDE) {
            refusedBranch(kind, 3100, 10, 0);
        }
        for (int kind = 1; kind <= 5; kind++) {
            refusedBranch(kind, 3116, 10, 0);
            refusedBranch(kind, 3300, 10, 0);
            refusedBranch(kind, 4100, 10, 0);
            refusedBranch(kind, -1, 10, 0);
            refusedBranch(kind, 3100, 16, 0);
            refusedBranch(kind, 3100, 40000, 0);
            refusedBranch(kind, 3100, -1, 0);
            refusedBranch(kind, 3100, 10, 4);
            refusedBranch(kind, 3100, 10, -1);
        }
    }

    private static void refusedChange(int which, int when, int then, int result) {
        refused("change(" + which + ", " + when + ", " + then + ", " + result + ")", 0,
            x -> x.change(which, when, then, result) ? 1 : 0);
    }

    /** "False if there is none such, or it can't be." */
    private static void change() {
        for (int which : OUTSIDE) {
            refusedChange(which, 3100, 10, 0);
        }
        for (int which = 6; which <= 23; which++) {
            if (which != 20) {
                refusedChange(which, 3100, 10, 0);
            }
        }
        int[] there = {0, 1, 2, 3, 4, 5, 20};
        for (int which : there) {
            refusedChange(which, 3116, 10, 0);
            refusedChange(which, 3300, 10, 0);
            refusedChange(which, 4100, 10, 0);
            refusedChange(which, -1, 10, 0);
            refusedChange(which, 3100, 16, 0);
            refusedChange(which, 3100, 40000, 0);
            refusedChange(which, 3100, -1, 0);
            refusedChange(which, 3100, 10, 4);
            refusedChange(which, 3100, 10, -1);
        }
    }

    /** "NONE also if there is no such KIND, NUMBER, .. (then it isn't logged)." */
    private static void call() {
        refused("call(6, 0)", NONE, x -> x.call(6, 0));
        refused("call(0, 16)", NONE, x -> x.call(0, 16));
        refused("call(2, 16)", NONE, x -> x.call(2, 16));
        refused("call(6, 16)", NONE, x -> x.call(6, 16));
        for (int outside : OUTSIDE) {
            refused("call(" + outside + ", 5)", NONE, x -> x.call(outside, 5));
            refused("call(0, " + outside + ")", NONE, x -> x.call(0, outside));
        }
    }

    /** "NONE for others, or if there is none such." */
    private static void logged() {
        for (int what = 0; what <= 3; what++) {
            int asked = what;
            refused("logged(6, " + what + ")", NONE, x -> x.logged(6, asked));
            for (int outside : OUTSIDE) {
                refused("logged(" + outside + ", " + what + ")", NONE, x -> x.logged(outside, asked));
            }
        }
        refused("logged(0, 4)", NONE, x -> x.logged(0, 4));
        for (int outside : OUTSIDE) {
            refused("logged(0, " + outside + ")", NONE, x -> x.logged(0, outside));
        }
    }

    /** "NONE if there is no such CALL, a LIKE one is there .." */
    private static void make() {
        refused("make(6)", NONE, x -> x.make(6));
        refused("make(4), a like one is there", NONE, x -> x.make(4));
        refused("make(3), a like one is there", NONE, x -> x.make(3));
        for (int outside : OUTSIDE) {
            refused("make(" + outside + ")", NONE, x -> x.make(outside));
        }
    }

    /** "False if there is none such." */
    private static void drop() {
        refused("drop(4)", 0, x -> x.drop(4) ? 1 : 0);
        for (int outside : OUTSIDE) {
            refused("drop(" + outside + ")", 0, x -> x.drop(outside) ? 1 : 0);
        }
    }

    /** "NONE for others, or if there is none such." */
    private static void told() {
        for (int what = 0; what <= 5; what++) {
            int asked = what;
            refused("told(4, " + what + ")", NONE, x -> x.told(4, asked));
            refused("told(-1, " + what + ")", NONE, x -> x.told(-1, asked));
        }
        refused("told(0, 6)", NONE, x -> x.told(0, 6));
        for (int outside : OUTSIDE) {
            refused("told(0, " + outside + ")", NONE, x -> x.told(0, outside));
            refused("told(" + outside + ", 0)", NONE, x -> x.told(outside, 0));
        }
    }

    /** "NONE for others, or if there is none such." */
    private static void row() {
        for (int what = 0; what <= 3; what++) {
            int asked = what;
            refused("row(4, 0, " + what + ")", NONE, x -> x.row(4, 0, asked));
            refused("row(-1, 0, " + what + ")", NONE, x -> x.row(-1, 0, asked));
            refused("row(2, 1, " + what + ")", NONE, x -> x.row(2, 1, asked));
            refused("row(2, -1, " + what + ")", NONE, x -> x.row(2, -1, asked));
        }
        refused("row(0, 0, 4)", NONE, x -> x.row(0, 0, 4));
        for (int outside : OUTSIDE) {
            refused("row(0, 0, " + outside + ")", NONE, x -> x.row(0, 0, outside));
            refused("row(0, " + outside + ", 0)", NONE, x -> x.row(0, outside, 0));
            refused("row(" + outside + ", 0, 0)", NONE, x -> x.row(outside, 0, 0));
        }
    }

    /** "NONE if none does, or there is none such." */
    private static void differs() {
        refused("differs(4)", NONE, x -> x.differs(4));
        for (int outside : OUTSIDE) {
            refused("differs(" + outside + ")", NONE, x -> x.differs(outside));
        }
    }

    /** "False if there is none such." */
    private static void accept() {
        refused("accept(4)", 0, x -> x.accept(4) ? 1 : 0);
        for (int outside : OUTSIDE) {
            refused("accept(" + outside + ")", 0, x -> x.accept(outside) ? 1 : 0);
        }
    }

    /** "NONE if there is none such." */
    private static void register() {
        refused("register(4)", NONE, x -> x.register(4));
        for (int outside : OUTSIDE) {
            refused("register(" + outside + ")", NONE, x -> x.register(outside));
        }
    }

    /** "NONE for others." */
    private static void count() {
        refused("count(6)", NONE, x -> x.count(6));
        for (int outside : OUTSIDE) {
            refused("count(" + outside + ")", NONE, x -> x.count(outside));
        }
    }

    /** Running rows NOW to answer leaves the log, the registers and the marks of the tests alone. */
    private static void askingChangesNothing() {
        TestsFromUse x = livedIn();
        x.reached();
        x.never();
        x.fewest();
        x.chosen();
        x.register(0);
        int calls = LIVED_CALLS + 5;
        for (int what = 0; what <= 5; what++) {
            x.count(what);
            x.told(0, what);
            x.logged(1, what);
            x.row(0, 0, what);
            calls += 4;
        }
        for (int test = 0; test < 4; test++) {
            x.differs(test);
            x.told(test, 3);
            calls += 2;
        }
        Answers.dueAlike("behind asking", x, livedIn(), calls);
    }
}
