/** Empty: no branches, no calls, no tests, and heaps, setups and runs of nothing. */
public final class EmptyTest {
    private static final int NONE = TestsFromUse.NONE;
    private static final int ALWAYS = 3100;
    private static final int NEVER = 0;

    public static void main(String[] args) {
        newObject();
        newObjectsHaveNothingInCommon();
        noBranches();
        noBranchThatHolds();
        noCalls();
        freshOfAnEmptyLog();
        freshTakesTheLogAlone();
        noTests();
        dropOfTheOnlyTest();
        testsThatMeetNothing();
        noneTouched();
        noneReached();
        Check.end();
    }

    /** "A MACHINE without BRANCHES; an empty LOG"; registers "all 0 at first". */
    private static void newObject() {
        TestsFromUse x = new TestsFromUse();
        for (int what = 0; what <= 5; what++) {
            Check.due("count(" + what + ") of a new object", x.count(what), 0);
        }
        for (int register = 0; register <= 3; register++) {
            Check.due("register(" + register + ") of a new object", x.register(register), 0);
        }
        Check.due("reached() of a new object", x.reached(), 0);
        Check.due("never() of a new object", x.never(), 0);
    }

    private static void newObjectsHaveNothingInCommon() {
        TestsFromUse used = new TestsFromUse();
        used.branch(0, ALWAYS, 5, 0);
        used.call(0, 0);
        used.make(0);
        TestsFromUse x = new TestsFromUse();
        Check.due("no branch of the used one", x.count(2), 0);
        Check.due("no call of the used one", x.count(0), 0);
        Check.due("no test of the used one", x.count(1), 0);
        Check.due("no register of the used one", x.register(0), 0);
    }

    /** "If there is none, nothing changes, and the RESULT is NONE"; such a call is logged and tested as others. */
    private static void noBranches() {
        TestsFromUse x = new TestsFromUse();
        for (int kind = 0; kind <= 5; kind++) {
            Check.due("call of kind " + kind, x.call(kind, 15 - kind), NONE);
            Check.due("it is logged", x.count(0), kind + 1);
            Check.due("its kind", x.logged(kind, 0), kind);
            Check.due("its number", x.logged(kind, 1), 15 - kind);
            Check.due("its result", x.logged(kind, 2), NONE);
            Check.due("its branch", x.logged(kind, 3), NONE);
        }
        for (int bit = 0; bit < 24; bit++) {
            Check.due("change(" + bit + ") without branches", x.change(bit, ALWAYS, 0, 0), false);
        }
        Check.due("reached() without branches", x.reached(), 0);
        Check.due("never() without branches", x.never(), 0);
        Check.due("make(5) without branches", x.make(5), 0);
        Check.due("it needs no setup", x.told(0, 0), 1);
        Check.due("it asks for NONE", x.row(0, 0, 2), NONE);
        Check.due("it gives NONE", x.row(0, 0, 3), NONE);
        Check.due("its kind is told", x.row(0, 0, 0), 5);
        Check.due("it met nothing", x.told(0, 4), 0);
        Check.due("it meets nothing", x.told(0, 5), 0);
        Check.due("it would not break", x.told(0, 3), 0);
        for (int register = 0; register <= 3; register++) {
            Check.due("register " + register, x.register(register), 0);
        }
    }

    /** A kind with branches of which none holds: as if it had none, but they are there. */
    private static void noBranchThatHolds() {
        TestsFromUse x = new TestsFromUse();
        for (int place = 0; place < 4; place++) {
            x.branch(4, NEVER, 10005 + place, 1);
        }
        x.branch(0, ALWAYS, 10007, 1);
        x.call(0, 0);
        Check.due("call", x.call(4, 9), NONE);
        Check.due("nothing changes", x.register(1), 7);
        Check.due("it is logged", x.count(0), 2);
        Check.due("without a branch", x.logged(1, 3), NONE);
        Check.due("never", x.never(), 15 << 16);
        Check.due("make", x.make(1), 0);
        Check.due("it needs no setup", x.told(0, 0), 1);
        x.branch(1, ALWAYS, 0, 0);
        Check.due("a branch of another kind does not touch it", x.told(0, 1), 0);
        x.change(16, ALWAYS, 10005, 1);
        Check.due("a branch that it did not meet does not touch it", x.told(0, 1), 0);
        Check.due("though it would break", x.told(0, 3), 1);
        Check.due("so none breaks in a run", x.run(), 0);
        Check.due("and none is broken", x.count(4), 0);
    }

    private static void noCalls() {
        TestsFromUse x = new TestsFromUse();
        x.branch(0, ALWAYS, 1, 0);
        x.branch(5, ALWAYS, 1, 0);
        for (int what = 0; what <= 3; what++) {
            Check.due("logged(0, " + what + ") of an empty log", x.logged(0, what), NONE);
        }
        Check.due("make(0) of an empty log", x.make(0), NONE);
        Check.due("make(-1) of an empty log", x.make(-1), NONE);
        Check.due("no test was made", x.count(1), 0);
        Check.due("no call would differ", x.count(5), 0);
        Check.due("reached() of an empty log", x.reached(), 0);
        Check.due("never() of an empty log", x.never(), 1 | 1 << 20);
        x.change(0, ALWAYS, 2, 0);
        Check.due("still none would differ", x.count(5), 0);
    }

    /** "How many CALLS it had": 0 of an empty one. */
    private static void freshOfAnEmptyLog() {
        TestsFromUse x = new TestsFromUse();
        Check.due("fresh of a new object", x.fresh(), 0);
        x.branch(0, ALWAYS, 1001, 0);
        Check.due("fresh without calls", x.fresh(), 0);
        Check.due("the first call", x.call(0, 0), 1);
        Check.due("fresh of one call", x.fresh(), 1);
        Check.due("fresh of none again", x.fresh(), 0);
        Check.due("a call behind it is the first one", x.call(0, 0), 1);
        Check.due("one call", x.count(0), 1);
        x.call(7, 0);
        Check.due("refused calls do not count", x.fresh(), 1);
    }

    /** "The LOG begins anew, from the first state on": branches and tests stay. */
    private static void freshTakesTheLogAlone() {
        TestsFromUse x = new TestsFromUse();
        for (int register = 0; register <= 3; register++) {
            x.branch(register, (register + 1) % 4 * 1000 + 100, register * 10000 + 1005, register);
        }
        x.call(0, 1);
        x.call(1, 2);
        x.call(2, 3);
        x.call(3, 4);
        x.make(0);
        x.make(1);
        x.change(0, 1100, 6, 0);
        x.run();
        x.change(4, 2100, 10006, 1);
        Check.due("fresh", x.fresh(), 4);
        for (int register = 0; register <= 3; register++) {
            Check.due("register " + register, x.register(register), 0);
        }
        int[] counts = {0, 2, 4, 1, 1, 0};
        for (int what = 0; what <= 5; what++) {
            Check.due("count(" + what + ") behind fresh", x.count(what), counts[what]);
        }
        Check.due("test 0 is broken still", x.told(0, 2), 1);
        Check.due("test 1 is touched still", x.told(1, 1), 1);
        Check.due("test 0 has its row", x.row(0, 0, 1), 1);
        Check.due("make of a call that is gone", x.make(1), NONE);
        Check.due("reached", x.reached(), 0);
        Check.due("never", x.never(), 1 | 1 << 4 | 1 << 8 | 1 << 12);
    }

    /** "False if there is none such", "NONE .. if there is none such", "0 without TESTS". */
    private static void noTests() {
        TestsFromUse x = new TestsFromUse();
        x.branch(0, ALWAYS, 1001, 0);
        x.call(0, 0);
        Check.due("fewest() without tests", x.fewest(), 0);
        Check.due("chosen() without tests", x.chosen(), 0);
        Check.due("run() without tests", x.run(), 0);
        Check.due("drop(0) without tests", x.drop(0), false);
        Check.due("accept(0) without tests", x.accept(0), false);
        Check.due("differs(0) without tests", x.differs(0), NONE);
        for (int what = 0; what <= 5; what++) {
            Check.due("told(0, " + what + ") without tests", x.told(0, what), NONE);
            Check.due("row(0, 0, " + what + ") without tests", x.row(0, 0, what), NONE);
        }
        x.change(0, ALWAYS, 1002, 0);
        x.branch(0, ALWAYS, 1002, 0);
        Check.due("none is touched", x.count(3), 0);
        Check.due("none is broken", x.count(4), 0);
        Check.due("run() still without tests", x.run(), 0);
    }

    private static void dropOfTheOnlyTest() {
        TestsFromUse x = new TestsFromUse();
        x.branch(0, ALWAYS, 1001, 0);
        x.call(0, 0);
        x.make(0);
        x.change(0, ALWAYS, 1002, 0);
        x.run();
        x.change(0, ALWAYS, 1003, 0);
        Check.due("touched", x.count(3), 1);
        Check.due("broken", x.count(4), 1);
        Check.due("drop(0)", x.drop(0), true);
        Check.due("no test", x.count(1), 0);
        Check.due("none is touched", x.count(3), 0);
        Check.due("none is broken", x.count(4), 0);
        Check.due("run", x.run(), 0);
        Check.due("fewest", x.fewest(), 0);
        Check.due("chosen", x.chosen(), 0);
        Check.due("told", x.told(0, 0), NONE);
        Check.due("drop(0) again", x.drop(0), false);
        Check.due("the same one can be made", x.make(0), 0);
        Check.due("as a new one: not touched", x.told(0, 1), 0);
        Check.due("as a new one: not broken", x.told(0, 2), 0);
        Check.due("as a new one: asks for what is given", x.row(0, 0, 2), 3);
    }

    /** Where the tests meet nothing, the heap of none meets all that they meet. */
    private static void testsThatMeetNothing() {
        TestsFromUse x = new TestsFromUse();
        x.call(0, 0);
        x.call(1, 0);
        x.make(0);
        x.make(1);
        Check.due("two tests", x.count(1), 2);
        Check.due("fewest of tests that meet nothing", x.fewest(), 0);
        Check.due("chosen of tests that meet nothing", x.chosen(), 0);
        x.branch(1, ALWAYS, 0, 0);
        Check.due("fewest NOW", x.fewest(), 1);
        Check.due("chosen NOW", x.chosen(), 2);
        x.change(4, NEVER, 0, 0);
        Check.due("fewest NOW again", x.fewest(), 0);
    }

    /** "The TOUCHED ones are RUN": none is, where none is touched, though one would break. */
    private static void noneTouched() {
        TestsFromUse x = new TestsFromUse();
        x.branch(0, NEVER, 1001, 0);
        x.branch(0, ALWAYS, 1001, 0);
        x.call(0, 0);
        x.make(0);
        Check.due("run of a new test", x.run(), 0);
        x.change(0, ALWAYS, 1002, 0);
        Check.due("it met another branch", x.count(3), 0);
        Check.due("it would break", x.told(0, 3), 1);
        Check.due("but it is not run", x.run(), 0);
        Check.due("and not broken", x.told(0, 2), 0);
        x.change(1, ALWAYS, 1001, 0);
        Check.due("now it is run", x.run(), 1);
        Check.due("and broken", x.told(0, 2), 1);
        Check.due("a second run has none", x.run(), 0);
        Check.due("the broken one stays broken", x.count(4), 1);
    }

    private static void noneReached() {
        TestsFromUse x = new TestsFromUse();
        for (int kind = 0; kind <= 5; kind++) {
            x.branch(kind, ALWAYS, 0, 0);
        }
        Check.due("all are never reached", x.never(), 0x111111);
        for (int kind = 0; kind <= 5; kind++) {
            x.call(kind, 0);
        }
        Check.due("none is never reached", x.never(), 0);
        Check.due("all are reached", x.reached(), 0x111111);
        for (int kind = 0; kind <= 5; kind++) {
            x.change(4 * kind, NEVER, 0, 0);
        }
        Check.due("none is reached NOW", x.reached(), 0);
        Check.due("all are never reached NOW", x.never(), 0x111111);
    }
}
