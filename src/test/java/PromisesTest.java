/** For each promise of the document: ordinary inputs, the edges that it names, and wrong inputs. */
public final class PromisesTest {
    private static final int NONE = TestsFromUse.NONE;
    private static final int[] WRONG = {-1, Integer.MIN_VALUE, Integer.MAX_VALUE};

    /** Conditions that hold in the first state, and conditions that hold in none. */
    private static final int R0_LIKE_0 = 100;
    private static final int R3_LIKE_0 = 3100;
    private static final int NEVER_HOLDS = 0;

    public static void main(String[] args) {
        newObject();
        branchCounts();
        branchRefuses();
        conditions();
        effects();
        firstBranchThatHolds();
        branchTouches();
        change();
        changeRefuses();
        changeTouches();
        call();
        callRefuses();
        logLimit();
        fresh();
        logged();
        loggedStaysAsItWas();
        makeLeavesOut();
        makeNeedsTheSameBranch();
        makeGoesOverItAgain();
        makeGoesOverItTillNoneGoes();
        makeGoesOnToTheLastBeforeItGoesAgain();
        makeGoesFromTheFirstOn();
        makeUsesTheMachineNow();
        makeRefuses();
        makeOfALongLog();
        drop();
        dropMovesBrokenOnes();
        told();
        toldMetStaysTillAccepted();
        row();
        differs();
        run();
        runMendsBrokenOnes();
        brokenOnesBreakAgain();
        otherBranchesDoNotBreak();
        aResultInTheMiddleBreaks();
        accept();
        reachedAndNever();
        fewestAndChosen();
        register();
        count();
        Check.end();
    }

    /** Kind 0 counts register 0 up by one (below 15); kind 1 gives register 1 the call's number. */
    private static TestsFromUse counter() {
        TestsFromUse x = new TestsFromUse();
        x.branch(0, 15, 1001, 0);
        x.branch(1, R3_LIKE_0, 10100, 1);
        return x;
    }

    private static void newObject() {
        TestsFromUse x = new TestsFromUse();
        Check.due("NONE", NONE, -1);
        for (int what = 0; what <= 5; what++) {
            Check.due("new count", x.count(what), 0);
        }
        for (int register = 0; register <= 3; register++) {
            Check.due("new register", x.register(register), 0);
        }
        Check.due("new reached", x.reached(), 0);
        Check.due("new never", x.never(), 0);
        Check.due("new fewest", x.fewest(), 0);
        Check.due("new chosen", x.chosen(), 0);
        Check.due("new run", x.run(), 0);
        Check.due("new fresh", x.fresh(), 0);
        Check.due("new logged", x.logged(0, 0), NONE);
        Check.due("new told", x.told(0, 0), NONE);
        for (int kind = 0; kind <= 5; kind++) {
            Check.due("new call", x.call(kind, 0), NONE);
        }
    }

    private static void branchCounts() {
        TestsFromUse x = new TestsFromUse();
        for (int kind = 0; kind <= 5; kind++) {
            for (int many = 1; many <= 4; many++) {
                Check.due("branch", x.branch(kind, R0_LIKE_0, 0, 0), many);
            }
            Check.due("a fifth branch", x.branch(kind, R0_LIKE_0, 0, 0), NONE);
            Check.due("branches of all kinds", x.count(2), 4 * (kind + 1));
        }
        Check.due("never of all branches", x.never(), (1 << 24) - 1);
    }

    private static void branchRefuses() {
        TestsFromUse x = new TestsFromUse();
        x.call(0, 0);
        x.make(0);
        int[] wrongWhens = {16, 99, 116, 216, 300, 999, 1016, 1300, 3216, 3300, 4000, -100, -1000};
        int[] wrongThens = {16, 99, 9999, 30016, 39916, 40000, -100, -10000};
        for (int when : wrongWhens) {
            Check.due("branch with when " + when, x.branch(0, when, 0, 0), NONE);
        }
        for (int then : wrongThens) {
            Check.due("branch with then " + then, x.branch(0, 0, then, 0), NONE);
        }
        for (int wrong : WRONG) {
            Check.due("branch with a wrong kind", x.branch(wrong, 0, 0, 0), NONE);
            Check.due("branch with a wrong when", x.branch(0, wrong, 0, 0), NONE);
            Check.due("branch with a wrong then", x.branch(0, 0, wrong, 0), NONE);
            Check.due("branch with a wrong result", x.branch(0, 0, 0, wrong), NONE);
        }
        Check.due("branch with kind 6", x.branch(6, 0, 0, 0), NONE);
        Check.due("branch with result 4", x.branch(0, 0, 0, 4), NONE);
        Check.due("refused branches are not there", x.count(2), 0);
        Check.due("refused branches touch nothing", x.count(3), 0);
        Check.due("the greatest branch", x.branch(5, 3215, 39915, 3), 1);
        Check.due("the least branch", x.branch(0, 0, 0, 0), 1);
        Check.due("a branch touches", x.count(3), 1);
    }

    private static void conditions() {
        for (int register = 0; register <= 3; register++) {
            for (int value = 0; value <= 15; value++) {
                for (int now = 0; now <= 15; now++) {
                    TestsFromUse x = new TestsFromUse();
                    x.branch(0, register * 1000 + 100, register * 10000 + 100, register);
                    for (int how = 0; how <= 2; how++) {
                        x.branch(how + 1, register * 1000 + how * 100 + value, register * 10000 + 1000, register);
                    }
                    x.call(0, now);
                    Check.due("below", x.call(1, 0), now < value ? now : NONE);
                    Check.due("like", x.call(2, 0), now == value ? now : NONE);
                    Check.due("above", x.call(3, 0), now > value ? now : NONE);
                }
            }
        }
    }

    private static void effects() {
        TestsFromUse x = new TestsFromUse();
        x.branch(0, R0_LIKE_0, 39915, 3);
        x.branch(1, R0_LIKE_0, 21003, 2);
        x.branch(2, R0_LIKE_0, 12000, 2);
        x.branch(3, R0_LIKE_0, 0, 0);
        Check.due("9 * 0 + 9 * 15 + 15", x.call(0, 15), 6);
        Check.due("9 * 6 + 9 * 15 + 15", x.call(0, 15), 12);
        Check.due("9 * 12 + 9 * 1 + 15", x.call(0, 1), 4);
        Check.due("1 * 0 + 3", x.call(1, 7), 3);
        Check.due("1 * 3 + 3", x.call(1, 8), 6);
        Check.due("the result is of another register", x.call(2, 0), 6);
        Check.due("0 times all", x.call(3, 15), 0);
        Check.due("register 0", x.register(0), 0);
        Check.due("register 1", x.register(1), 0);
        Check.due("register 2", x.register(2), 6);
        Check.due("register 3", x.register(3), 4);
        TestsFromUse y = new TestsFromUse();
        y.branch(0, R0_LIKE_0, 1007, 0);
        Check.due("the result is behind the effect", y.call(0, 0), 7);
        Check.due("the condition is ahead of it", y.call(0, 0), NONE);
    }

    private static void firstBranchThatHolds() {
        TestsFromUse x = new TestsFromUse();
        x.branch(2, NEVER_HOLDS, 1, 0);
        x.branch(2, R3_LIKE_0, 2, 0);
        x.branch(2, R3_LIKE_0, 3, 0);
        x.branch(2, R3_LIKE_0, 4, 0);
        Check.due("the first that holds", x.call(2, 0), 2);
        Check.due("its bit", x.logged(0, 3), 9);
        Check.due("reached", x.reached(), 1 << 9);
        Check.due("never", x.never(), 1 << 8 | 1 << 10 | 1 << 11);
    }

    private static void branchTouches() {
        TestsFromUse x = counter();
        x.call(0, 0);
        x.call(1, 3);
        x.call(2, 0);
        x.make(0);
        x.make(1);
        x.make(2);
        Check.due("branch of kind 3", x.branch(3, R0_LIKE_0, 0, 0), 1);
        Check.due("no test has a call of kind 3", x.count(3), 0);
        x.branch(1, R0_LIKE_0, 0, 0);
        Check.due("test 0 has no call of kind 1", x.told(0, 1), 0);
        Check.due("test 1 met a branch of kind 1", x.told(1, 1), 1);
        Check.due("test 2 has no call of kind 1", x.told(2, 1), 0);
        x.branch(2, R0_LIKE_0, 0, 0);
        Check.due("test 2 has a call of kind 2 that met none", x.told(2, 1), 1);
        Check.due("touched ones", x.count(3), 2);
        Check.due("none is broken yet", x.count(4), 0);
        Check.due("run", x.run(), 1);
        Check.due("test 2 broke", x.told(2, 2), 1);
    }

    private static void change() {
        TestsFromUse x = new TestsFromUse();
        for (int kind = 0; kind <= 5; kind++) {
            for (int place = 0; place < 4; place++) {
                int bit = 4 * kind + place;
                Check.due("change before it is there", x.change(bit, 0, 0, 0), false);
                x.branch(kind, NEVER_HOLDS, 0, 0);
                Check.due("change of " + bit, x.change(bit, R3_LIKE_0, 20000 + bit % 16, 2), true);
                Check.due("the changed branch is taken", x.call(kind, 0), bit % 16);
                Check.due("it is that branch", x.logged(bit, 3), bit);
                Check.due("change back", x.change(bit, NEVER_HOLDS, 0, 0), true);
                Check.due("it does not hold any more", x.never() >> bit & 1, 1);
            }
        }
        Check.due("change makes no branches", x.count(2), 24);
        Check.due("a change does not move what went", x.register(2), 7);
    }

    private static void changeRefuses() {
        TestsFromUse x = counter();
        x.call(0, 0);
        x.make(0);
        int[] wrongWhens = {16, 300, 3216, 4000};
        int[] wrongThens = {16, 39916, 40000};
        for (int when : wrongWhens) {
            Check.due("change with when " + when, x.change(0, when, 0, 0), false);
        }
        for (int then : wrongThens) {
            Check.due("change with then " + then, x.change(0, 0, then, 0), false);
        }
        for (int wrong : WRONG) {
            Check.due("change of a wrong bit", x.change(wrong, 0, 0, 0), false);
            Check.due("change with a wrong when", x.change(0, wrong, 0, 0), false);
            Check.due("change with a wrong then", x.change(0, 0, wrong, 0), false);
            Check.due("change with a wrong result", x.change(0, 0, 0, wrong), false);
        }
        Check.due("change with result 4", x.change(0, 0, 0, 4), false);
        Check.due("change of 1", x.change(1, 0, 0, 0), false);
        Check.due("change of 24", x.change(24, 0, 0, 0), false);
        Check.due("refused changes touch nothing", x.count(3), 0);
        Check.due("refused changes change nothing", x.call(0, 0), 2);
    }

    private static void changeTouches() {
        TestsFromUse x = new TestsFromUse();
        x.branch(0, 2, 1001, 0);
        x.branch(0, 102, 1004, 0);
        x.call(0, 0);
        x.call(0, 0);
        x.call(0, 0);
        x.make(0);
        x.make(2);
        x.change(1, 102, 1005, 0);
        Check.due("a test with a call of the kind that did not meet it", x.told(0, 1), 0);
        Check.due("a test that met it", x.told(1, 1), 1);
        x.change(0, 2, 1001, 0);
        Check.due("a change to the same touches too", x.count(3), 2);
        Check.due("would break ahead of the run", x.told(1, 3), 1);
        Check.due("but is not broken yet", x.told(1, 2), 0);
        Check.due("run", x.run(), 1);
    }

    private static void call() {
        TestsFromUse x = counter();
        Check.due("call(0, 0)", x.call(0, 0), 1);
        Check.due("call(0, 15)", x.call(0, 15), 2);
        Check.due("call(1, 15)", x.call(1, 15), 15);
        Check.due("call(1, 0)", x.call(1, 0), 0);
        Check.due("call(5, 0) takes no branch", x.call(5, 0), NONE);
        Check.due("all are logged", x.count(0), 5);
        x.change(0, 15, 1003, 0);
        Check.due("by the machine as it is", x.call(0, 0), 5);
    }

    private static void callRefuses() {
        TestsFromUse x = counter();
        for (int wrong : WRONG) {
            Check.due("call of a wrong kind", x.call(wrong, 0), NONE);
            Check.due("call with a wrong number", x.call(0, wrong), NONE);
        }
        Check.due("call of kind 6", x.call(6, 0), NONE);
        Check.due("call with number 16", x.call(0, 16), NONE);
        Check.due("refused calls are not logged", x.count(0), 0);
        Check.due("refused calls move nothing", x.register(0), 0);
    }

    private static void logLimit() {
        TestsFromUse x = new TestsFromUse();
        x.branch(0, R3_LIKE_0, 1001, 0);
        for (int i = 1; i <= 200; i++) {
            Check.due("call " + i, x.call(0, 0), i % 16);
        }
        Check.due("call 201", x.call(0, 0), NONE);
        Check.due("count of a full log", x.count(0), 200);
        Check.due("the last call", x.logged(199, 2), 200 % 16);
        Check.due("behind the last call", x.logged(200, 2), NONE);
        Check.due("the state is as it was", x.register(0), 200 % 16);
        Check.due("make of call 200", x.make(200), NONE);
        Check.due("fresh of a full log", x.fresh(), 200);
        Check.due("call behind fresh", x.call(0, 0), 1);
    }

    private static void fresh() {
        TestsFromUse x = counter();
        x.call(0, 0);
        x.call(0, 0);
        x.call(1, 9);
        x.make(1);
        Check.due("fresh", x.fresh(), 3);
        Check.due("fresh of an empty log", x.fresh(), 0);
        Check.due("an empty log", x.count(0), 0);
        Check.due("nothing is logged", x.logged(0, 0), NONE);
        Check.due("register 0 behind fresh", x.register(0), 0);
        Check.due("register 1 behind fresh", x.register(1), 0);
        Check.due("reached behind fresh", x.reached(), 0);
        Check.due("branches stay", x.count(2), 2);
        Check.due("tests stay", x.told(0, 0), 2);
        Check.due("a call from the first state on", x.call(0, 0), 1);
    }

    private static void logged() {
        TestsFromUse x = counter();
        x.call(0, 7);
        x.call(1, 15);
        x.call(5, 0);
        int[][] due = {{0, 7, 1, 0}, {1, 15, 15, 4}, {5, 0, NONE, NONE}};
        for (int i = 0; i < due.length; i++) {
            for (int what = 0; what <= 3; what++) {
                Check.due("logged(" + i + ", " + what + ")", x.logged(i, what), due[i][what]);
            }
            Check.due("logged what 4", x.logged(i, 4), NONE);
            for (int wrong : WRONG) {
                Check.due("logged a wrong what", x.logged(i, wrong), NONE);
                Check.due("logged a wrong call", x.logged(wrong, 0), NONE);
            }
        }
        Check.due("logged(3, 0)", x.logged(3, 0), NONE);
    }

    private static void loggedStaysAsItWas() {
        TestsFromUse x = counter();
        x.call(0, 0);
        x.change(0, NEVER_HOLDS, 1009, 0);
        x.branch(0, R3_LIKE_0, 1005, 0);
        Check.due("the result as it was", x.logged(0, 2), 1);
        Check.due("the branch as it was", x.logged(0, 3), 0);
        Check.due("register as it went", x.register(0), 1);
        Check.due("reached is told NOW", x.reached(), 2);
        x.call(0, 0);
        Check.due("the next call goes on from there", x.logged(1, 2), 6);
        Check.due("and takes a branch as it is then", x.logged(1, 3), 1);
    }

    private static void dueRow(TestsFromUse x, int test, int[][] calls) {
        Check.due("length of test " + test, x.told(test, 0), calls.length);
        for (int k = 0; k < calls.length; k++) {
            Check.due("kind of call " + k + " of test " + test, x.row(test, k, 0), calls[k][0]);
            Check.due("number of call " + k + " of test " + test, x.row(test, k, 1), calls[k][1]);
            Check.due("result of call " + k + " of test " + test, x.row(test, k, 2), calls[k][2]);
        }
    }

    private static void makeLeavesOut() {
        TestsFromUse x = counter();
        x.call(1, 3);
        x.call(0, 1);
        x.call(4, 4);
        x.call(1, 5);
        x.call(0, 2);
        Check.due("make(4)", x.make(4), 0);
        dueRow(x, 0, new int[][] {{0, 1, 1}, {0, 2, 2}});
        Check.due("make(3)", x.make(3), 1);
        dueRow(x, 1, new int[][] {{1, 5, 5}});
        Check.due("make(2)", x.make(2), 2);
        dueRow(x, 2, new int[][] {{4, 4, NONE}});
        Check.due("met of test 0", x.told(0, 4), 1);
        Check.due("met of test 1", x.told(1, 4), 1 << 4);
        Check.due("met of test 2", x.told(2, 4), 0);
        Check.due("a new test is not touched", x.count(3), 0);
        Check.due("the log stays whole", x.count(0), 5);
        Check.due("the log's order stays", x.logged(0, 1), 3);
    }

    private static void makeNeedsTheSameBranch() {
        TestsFromUse x = new TestsFromUse();
        x.branch(0, R0_LIKE_0, 1001, 0);
        x.branch(1, R0_LIKE_0, 20005, 2);
        x.branch(1, 200, 20005, 2);
        x.call(0, 0);
        x.call(1, 0);
        x.make(1);
        dueRow(x, 0, new int[][] {{0, 0, 1}, {1, 0, 5}});
        Check.due("both branches", x.told(0, 4), 1 | 1 << 5);
    }

    private static void makeGoesOverItAgain() {
        TestsFromUse x = new TestsFromUse();
        // Kind 0 sets register 0 to its number; kind 3 sets register 2 to 9 while register 0 is 0;
        // kind 5 shows register 2.
        x.branch(0, R3_LIKE_0, 100, 0);
        x.branch(3, R0_LIKE_0, 20009, 2);
        x.branch(5, R3_LIKE_0, 21000, 2);
        x.call(0, 1);
        x.call(3, 0);
        x.call(5, 0);
        // Call 0 keeps call 1 from setting register 2, so it stays in the first pass; then call 1
        // goes, and only a second pass finds that call 0 is of no more use.
        x.make(2);
        dueRow(x, 0, new int[][] {{5, 0, 0}});
    }

    /** Each pass leaves out one call: the last, then the one ahead of it, then the first. */
    private static void makeGoesOverItTillNoneGoes() {
        TestsFromUse x = new TestsFromUse();
        // Without call 0, call 1 spoils register 3; without call 1, call 2 does.
        x.branch(0, R3_LIKE_0, 1, 0);
        x.branch(1, 101, 10001, 1);
        x.branch(1, R3_LIKE_0, 30009, 3);
        x.branch(2, 1100, 30009, 3);
        x.branch(3, 2100, 31000, 3);
        x.call(0, 0);
        x.call(1, 0);
        x.call(2, 0);
        x.call(3, 0);
        x.make(3);
        dueRow(x, 0, new int[][] {{3, 0, 0}});
    }

    /** A call that went makes room for an earlier one to go, but first the later ones are looked at. */
    private static void makeGoesOnToTheLastBeforeItGoesAgain() {
        TestsFromUse x = new TestsFromUse();
        // Calls 0 and 2 do the same; call 1 spoils register 3 if call 0 is not there.
        x.branch(0, R3_LIKE_0, 1, 0);
        x.branch(1, R0_LIKE_0, 30009, 3);
        x.branch(2, R3_LIKE_0, 1000, 0);
        x.call(0, 3);
        x.call(1, 0);
        x.call(0, 4);
        x.call(2, 0);
        x.make(3);
        dueRow(x, 0, new int[][] {{0, 3, 1}, {2, 0, 1}});
    }

    /** Of two calls of which either one can go, but not both, the first one goes. */
    private static void makeGoesFromTheFirstOn() {
        TestsFromUse x = new TestsFromUse();
        x.branch(0, R3_LIKE_0, 1, 0);
        x.branch(1, R3_LIKE_0, 1000, 0);
        x.call(0, 3);
        x.call(0, 4);
        x.call(1, 0);
        x.make(2);
        dueRow(x, 0, new int[][] {{0, 4, 1}, {1, 0, 1}});
    }

    private static void makeUsesTheMachineNow() {
        TestsFromUse x = counter();
        x.call(0, 0);
        x.call(0, 0);
        x.change(0, R0_LIKE_0, 1005, 0);
        x.make(1);
        // NOW the second call takes no branch behind the first one.
        dueRow(x, 0, new int[][] {{0, 0, 5}, {0, 0, NONE}});
        Check.due("it met what it meets as it is made", x.told(0, 4), 1);
        Check.due("it does not break", x.told(0, 3), 0);
        x.change(0, R3_LIKE_0, 7, 0);
        Check.due("another row NOW", x.make(1), 1);
        dueRow(x, 1, new int[][] {{0, 0, 7}});
        Check.due("the older test asks for what it asked for", x.row(0, 0, 2), 5);
    }

    private static void makeRefuses() {
        TestsFromUse x = counter();
        Check.due("make of an empty log", x.make(0), NONE);
        x.call(0, 0);
        x.call(1, 4);
        x.call(1, 4);
        for (int wrong : WRONG) {
            Check.due("make of a wrong call", x.make(wrong), NONE);
        }
        Check.due("make(3)", x.make(3), NONE);
        Check.due("make(1)", x.make(1), 0);
        Check.due("make of a like one", x.make(2), NONE);
        Check.due("one test", x.count(1), 1);
        Check.due("the like one is as it was", x.told(0, 0), 1);
        x.change(4, R3_LIKE_0, 10101, 1);
        Check.due("a like one with other results is like too", x.make(1), NONE);
        Check.due("it asks for what it asked for", x.row(0, 0, 2), 4);
        Check.due("it is touched still", x.told(0, 1), 1);
        for (int number = 0; number <= 10; number++) {
            x.call(1, number == 4 ? 15 : number);
            Check.due("make up to 12", x.make(number + 3), number + 1);
        }
        x.call(1, 14);
        Check.due("make with 12 there", x.make(14), NONE);
        Check.due("12 tests", x.count(1), 12);
        Check.due("drop of one", x.drop(11), true);
        Check.due("make with 11 there", x.make(14), 11);
        Check.due("its number", x.row(11, 0, 1), 14);
    }

    private static void makeOfALongLog() {
        TestsFromUse x = new TestsFromUse();
        x.branch(0, R3_LIKE_0, 1001, 0);
        for (int i = 0; i < 200; i++) {
            x.call(0, i % 16);
        }
        Check.due("make(199)", x.make(199), 0);
        // 200 % 16 is 8: leaving out 16 calls together would do, but never one of them alone.
        Check.due("all 200 calls are needed", x.told(0, 0), 200);
        Check.due("the last call", x.row(0, 199, 1), 199 % 16);
        Check.due("behind the last call", x.row(0, 200, 0), NONE);
        Check.due("row gives NOW", x.row(0, 199, 3), 8);
    }

    private static void drop() {
        TestsFromUse x = counter();
        for (int number = 0; number < 4; number++) {
            x.call(1, number);
            x.make(number);
        }
        x.branch(1, R0_LIKE_0, 0, 0);
        x.accept(3);
        for (int wrong : WRONG) {
            Check.due("drop of a wrong one", x.drop(wrong), false);
        }
        Check.due("drop(4)", x.drop(4), false);
        Check.due("all are there", x.count(1), 4);
        Check.due("drop(1)", x.drop(1), true);
        Check.due("three are there", x.count(1), 3);
        Check.due("the one ahead stays", x.row(0, 0, 1), 0);
        Check.due("those behind come up", x.row(1, 0, 1), 2);
        Check.due("up to the last", x.row(2, 0, 1), 3);
        Check.due("with what is known of them", x.told(1, 1), 1);
        Check.due("each with its own", x.told(2, 1), 0);
        Check.due("none behind the last", x.told(3, 0), NONE);
        Check.due("a new test behind the last", x.make(1), 3);
        Check.due("it has its own row", x.row(3, 0, 1), 1);
        Check.due("the one ahead of it keeps its own", x.row(2, 0, 1), 3);
        Check.due("drop of the last", x.drop(3), true);
        Check.due("drop of the one ahead", x.drop(2), true);
        Check.due("no like one is there any more", x.make(1), 2);
        Check.due("a test in a used place is not touched", x.told(2, 1), 0);
        Check.due("a like one is there", x.make(0), NONE);
        Check.due("drop(0)", x.drop(0), true);
        Check.due("drop(0)", x.drop(0), true);
        Check.due("drop(0)", x.drop(0), true);
        Check.due("drop of none", x.drop(0), false);
    }

    private static void dropMovesBrokenOnes() {
        TestsFromUse x = counter();
        x.call(0, 0);
        x.call(1, 0);
        x.call(1, 5);
        x.make(0);
        x.make(1);
        x.make(2);
        x.change(4, R3_LIKE_0, 10200, 1);
        x.run();
        Check.due("the last one is broken", x.told(2, 2), 1);
        x.drop(0);
        Check.due("the first one now is not broken", x.told(0, 2), 0);
        Check.due("the broken one came up", x.told(1, 2), 1);
        Check.due("with what it met", x.told(1, 4), 1 << 4);
        Check.due("with what it asks for", x.row(1, 0, 2), 5);
        Check.due("with what it gives", x.row(1, 0, 3), 10);
        Check.due("one is broken", x.count(4), 1);
        x.drop(1);
        Check.due("none is broken any more", x.count(4), 0);
    }

    private static void told() {
        TestsFromUse x = counter();
        x.call(0, 0);
        x.call(0, 0);
        x.make(1);
        int[] made = {2, 0, 0, 0, 1, 1};
        for (int what = 0; what <= 5; what++) {
            Check.due("told(0, " + what + ") as it is made", x.told(0, what), made[what]);
        }
        x.change(0, NEVER_HOLDS, 1001, 0);
        x.branch(0, R3_LIKE_0, 1002, 0);
        int[] touched = {2, 1, 0, 1, 1, 2};
        for (int what = 0; what <= 5; what++) {
            Check.due("told(0, " + what + ") touched", x.told(0, what), touched[what]);
        }
        x.run();
        int[] broken = {2, 0, 1, 1, 1, 2};
        for (int what = 0; what <= 5; what++) {
            Check.due("told(0, " + what + ") broken", x.told(0, what), broken[what]);
        }
        Check.due("told(0, 6)", x.told(0, 6), NONE);
        Check.due("told(1, 0)", x.told(1, 0), NONE);
        for (int wrong : WRONG) {
            Check.due("told a wrong what", x.told(0, wrong), NONE);
            Check.due("told of a wrong test", x.told(wrong, 0), NONE);
        }
    }

    private static void toldMetStaysTillAccepted() {
        TestsFromUse x = new TestsFromUse();
        x.branch(0, R3_LIKE_0, 1001, 0);
        x.branch(0, R3_LIKE_0, 1001, 0);
        x.call(0, 0);
        x.make(0);
        x.change(0, NEVER_HOLDS, 1001, 0);
        Check.due("run of one that gives the same", x.run(), 0);
        Check.due("run tells MET not anew", x.told(0, 4), 1);
        Check.due("it meets another NOW", x.told(0, 5), 2);
        x.change(1, R3_LIKE_0, 1002, 0);
        Check.due("so it did not meet what changed", x.told(0, 1), 0);
        Check.due("and is not run", x.run(), 0);
        Check.due("though it would break", x.told(0, 3), 1);
        Check.due("and is not broken", x.told(0, 2), 0);
        x.accept(0);
        Check.due("accepting tells MET anew", x.told(0, 4), 2);
        x.change(1, R3_LIKE_0, 1003, 0);
        Check.due("now it met what changed", x.told(0, 1), 1);
    }

    private static void row() {
        TestsFromUse x = counter();
        x.call(0, 15);
        x.call(0, 3);
        x.make(1);
        x.change(0, 15, 1004, 0);
        int[][] due = {{0, 15, 1, 4}, {0, 3, 2, 8}};
        for (int k = 0; k < 2; k++) {
            for (int what = 0; what <= 3; what++) {
                Check.due("row(0, " + k + ", " + what + ")", x.row(0, k, what), due[k][what]);
            }
            Check.due("row what 4", x.row(0, k, 4), NONE);
        }
        Check.due("row(0, 2, 0)", x.row(0, 2, 0), NONE);
        Check.due("row(0, 2, 3)", x.row(0, 2, 3), NONE);
        Check.due("row(1, 0, 0)", x.row(1, 0, 0), NONE);
        for (int wrong : WRONG) {
            Check.due("row of a wrong test", x.row(wrong, 0, 0), NONE);
            Check.due("row of a wrong call", x.row(0, wrong, 0), NONE);
            Check.due("row of a wrong what", x.row(0, 0, wrong), NONE);
        }
    }

    private static void differs() {
        TestsFromUse x = new TestsFromUse();
        x.branch(0, 2, 1001, 0);
        x.branch(0, 200, 1001, 0);
        for (int i = 0; i < 4; i++) {
            x.call(0, 0);
        }
        x.make(3);
        Check.due("none differs", x.differs(0), NONE);
        x.change(1, 200, 1002, 0);
        Check.due("calls 2 and 3 differ", x.differs(0), 2);
        x.change(1, 203, 1001, 0);
        Check.due("call 2 has no result any more", x.differs(0), 2);
        x.change(1, 102, 1001, 0);
        Check.due("the last call alone differs", x.differs(0), 3);
        x.change(0, NEVER_HOLDS, 0, 0);
        Check.due("all differ", x.differs(0), 0);
        x.accept(0);
        Check.due("none differs once it is accepted", x.differs(0), NONE);
        Check.due("differs(1)", x.differs(1), NONE);
        for (int wrong : WRONG) {
            Check.due("differs of a wrong one", x.differs(wrong), NONE);
        }
    }

    private static void run() {
        TestsFromUse x = counter();
        x.call(0, 0);
        x.call(1, 0);
        x.call(1, 5);
        x.make(0);
        x.make(1);
        x.make(2);
        x.change(4, R3_LIKE_0, 10200, 1);
        Check.due("two are touched", x.count(3), 2);
        Check.due("one of them breaks", x.run(), 1);
        Check.due("none is touched any more", x.count(3), 0);
        Check.due("test 1 is not broken", x.told(1, 2), 0);
        Check.due("test 2 is broken", x.told(2, 2), 1);
        Check.due("run again runs none", x.run(), 0);
        Check.due("the broken one stays broken", x.count(4), 1);
    }

    private static void runMendsBrokenOnes() {
        TestsFromUse x = counter();
        x.call(0, 0);
        x.make(0);
        x.change(0, 15, 1002, 0);
        x.run();
        x.change(0, 15, 1001, 0);
        Check.due("it would not break", x.told(0, 3), 0);
        Check.due("but is broken till it is run", x.told(0, 2), 1);
        Check.due("run", x.run(), 0);
        Check.due("it is broken no more", x.count(4), 0);
    }

    /** "BROKEN (till they are run again and don't, or are accepted)": run again, it may break again. */
    private static void brokenOnesBreakAgain() {
        TestsFromUse x = counter();
        x.call(0, 0);
        x.make(0);
        x.change(0, 15, 1002, 0);
        Check.due("it breaks", x.run(), 1);
        x.change(0, 15, 1003, 0);
        Check.due("a broken one is touched as others are", x.told(0, 1), 1);
        Check.due("it breaks again", x.run(), 1);
        Check.due("it stays broken", x.told(0, 2), 1);
        Check.due("one is broken, not two", x.count(4), 1);
        x.accept(0);
        Check.due("accepted, it is not broken", x.count(4), 0);
        x.change(0, 15, 1003, 0);
        Check.due("run of what it asks for now", x.run(), 0);
        x.change(0, 15, 1001, 0);
        Check.due("what it asked for at first breaks it", x.run(), 1);
    }

    /** "A TEST BREAKS, if a RESULT of its ROW .. is another one": the branches that it meets may be others. */
    private static void otherBranchesDoNotBreak() {
        TestsFromUse x = new TestsFromUse();
        x.branch(0, R0_LIKE_0, 1001, 0);
        x.branch(0, 101, 1001, 0);
        x.branch(0, 202, 1009, 0);
        x.call(0, 0);
        x.call(0, 0);
        x.make(1);
        x.change(0, 5, 1001, 0);
        Check.due("it meets fewer", x.told(0, 5), 1);
        Check.due("it is touched", x.told(0, 1), 1);
        Check.due("it would not break", x.told(0, 3), 0);
        Check.due("none breaks", x.run(), 0);
        Check.due("it is not broken", x.told(0, 2), 0);
        Check.due("no call of the log differs", x.count(5), 0);
    }

    /** A result in the middle of a row breaks it, though its last result is as asked for. */
    private static void aResultInTheMiddleBreaks() {
        TestsFromUse x = new TestsFromUse();
        x.branch(0, R0_LIKE_0, 1001, 0);
        x.branch(1, 101, 10007, 1);
        x.call(0, 0);
        x.call(1, 0);
        x.make(1);
        Check.due("both calls", x.told(0, 0), 2);
        x.change(0, R0_LIKE_0, 1001, 2);
        Check.due("the last result is as asked for", x.row(0, 1, 3), x.row(0, 1, 2));
        Check.due("it would break", x.told(0, 3), 1);
        Check.due("at its first call", x.differs(0), 0);
        Check.due("it breaks", x.run(), 1);
    }

    private static void accept() {
        TestsFromUse x = counter();
        x.call(0, 0);
        x.call(0, 0);
        x.make(0);
        x.make(1);
        x.change(0, 15, 1003, 0);
        x.run();
        x.change(0, 15, 1002, 0);
        Check.due("accept(1)", x.accept(1), true);
        Check.due("it asks for what it gives", x.row(1, 0, 2), 2);
        Check.due("at each call", x.row(1, 1, 2), 4);
        Check.due("it is not touched", x.told(1, 1), 0);
        Check.due("it is not broken", x.told(1, 2), 0);
        Check.due("it would not break", x.told(1, 3), 0);
        Check.due("the other one is touched", x.told(0, 1), 1);
        Check.due("the other one is broken", x.told(0, 2), 1);
        Check.due("the other one asks as it did", x.row(0, 0, 2), 1);
        Check.due("the row stays", x.told(1, 0), 2);
        Check.due("accept of one that holds", x.accept(1), true);
        Check.due("accept(2)", x.accept(2), false);
        for (int wrong : WRONG) {
            Check.due("accept of a wrong one", x.accept(wrong), false);
        }
    }

    private static void reachedAndNever() {
        TestsFromUse x = new TestsFromUse();
        x.branch(0, 2, 1001, 0);
        x.branch(0, 202, 1001, 0);
        x.branch(5, R3_LIKE_0, 1001, 0);
        x.branch(5, NEVER_HOLDS, 0, 0);
        x.branch(5, NEVER_HOLDS, 0, 0);
        x.branch(5, NEVER_HOLDS, 0, 0);
        x.call(0, 0);
        x.call(0, 0);
        x.call(0, 0);
        Check.due("reached", x.reached(), 1);
        Check.due("never", x.never(), 2 | 15 << 20);
        x.call(5, 0);
        x.call(0, 0);
        Check.due("reached more", x.reached(), 3 | 1 << 20);
        Check.due("never less", x.never(), 14 << 20);
        x.change(23, R3_LIKE_0, 0, 0);
        Check.due("the first that holds stays reached", x.reached(), 3 | 1 << 20);
        x.change(20, NEVER_HOLDS, 0, 0);
        Check.due("reached NOW", x.reached(), 1 | 1 << 23);
        Check.due("never NOW", x.never(), 2 | 7 << 20);
        x.make(4);
        x.fresh();
        Check.due("tests do not count as use", x.reached(), 0);
        Check.due("never without use", x.never(), 3 | 15 << 20);
    }

    private static void fewestAndChosen() {
        TestsFromUse x = new TestsFromUse();
        x.branch(0, R0_LIKE_0, 1001, 0);
        x.branch(1, 101, 1001, 0);
        x.branch(2, 102, 1001, 0);
        x.branch(3, R3_LIKE_0, 20001, 2);
        x.branch(4, R3_LIKE_0, 10001, 1);
        x.call(5, 0);
        x.call(3, 0);
        x.call(0, 0);
        x.call(1, 0);
        x.call(2, 0);
        x.call(4, 0);
        Check.due("a test that meets nothing", x.make(0), 0);
        Check.due("fewest that meet nothing", x.fewest(), 0);
        Check.due("chosen that meet nothing", x.chosen(), 0);
        x.make(1);
        Check.due("fewest of kind 3", x.fewest(), 1);
        Check.due("chosen of kind 3", x.chosen(), 2);
        x.make(2);
        x.make(3);
        x.make(4);
        Check.due("kinds 0, 1 and 2 are in one test", x.told(4, 4), 1 | 1 << 4 | 1 << 8);
        Check.due("fewest of four kinds", x.fewest(), 2);
        Check.due("chosen of four kinds", x.chosen(), 2 | 16);
        x.make(5);
        Check.due("fewest of five kinds", x.fewest(), 3);
        Check.due("chosen of five kinds", x.chosen(), 2 | 16 | 32);
        x.change(8, NEVER_HOLDS, 0, 0);
        Check.due("fewest NOW", x.fewest(), 3);
        Check.due("chosen NOW: test 3 does what test 4 did", x.chosen(), 2 | 8 | 32);
        x.drop(3);
        Check.due("fewest without test 3", x.fewest(), 3);
        Check.due("chosen without test 3", x.chosen(), 2 | 8 | 16);
        x.fresh();
        Check.due("the log does not matter", x.chosen(), 2 | 8 | 16);
        twelveTests();
        fewestIsNotGreedy();
    }

    private static void twelveTests() {
        TestsFromUse x = new TestsFromUse();
        for (int kind = 0; kind <= 2; kind++) {
            for (int value = 0; value <= 3; value++) {
                x.branch(kind, kind * 1000 + 100 + value, kind * 10000 + 1001, kind);
            }
        }
        for (int kind = 0; kind <= 2; kind++) {
            for (int value = 0; value <= 3; value++) {
                x.call(kind, 0);
                x.make(kind * 4 + value);
            }
        }
        Check.due("twelve tests", x.count(1), 12);
        Check.due("fewest of twelve", x.fewest(), 3);
        Check.due("chosen of twelve", x.chosen(), 1 << 3 | 1 << 7 | 1 << 11);
        for (int bit = 0; bit < 12; bit++) {
            x.change(bit, R3_LIKE_0, 30000, 3);
        }
        Check.due("the least number among alike ones", x.chosen(), 1 | 1 << 4 | 1 << 8);
    }

    /** The test that meets most branches is not among the fewest. */
    private static void fewestIsNotGreedy() {
        TestsFromUse x = new TestsFromUse();
        for (int kind = 0; kind <= 5; kind++) {
            x.branch(kind, 1100 + kind, 11001, 1);
        }
        // Each call needs those ahead of it: the row of call k meets kinds 0 .. k.
        int[][] uses = {{0, 1, 2, 3}, {0, 1, 4}, {2, 3, 5}};
        int[][] starts = {{0, 1, 2, 3}, {0, 1, 2}, {0, 1, 2}};
        for (int i = 0; i < uses.length; i++) {
            for (int k = 0; k < uses[i].length; k++) {
                x.change(4 * uses[i][k], 1100 + starts[i][k], 11001, 1);
                x.call(uses[i][k], 0);
            }
            x.make(uses[i].length - 1);
            x.fresh();
        }
        for (int kind = 0; kind <= 5; kind++) {
            x.change(4 * kind, R3_LIKE_0, 11001, 1);
        }
        Check.due("test 0 meets four", x.told(0, 5), 1 | 1 << 4 | 1 << 8 | 1 << 12);
        Check.due("test 1 meets three", x.told(1, 5), 1 | 1 << 4 | 1 << 16);
        Check.due("test 2 meets the other three", x.told(2, 5), 1 << 8 | 1 << 12 | 1 << 20);
        Check.due("fewest of the three", x.fewest(), 2);
        Check.due("chosen of the three", x.chosen(), 2 | 4);
    }

    private static void register() {
        TestsFromUse x = new TestsFromUse();
        for (int register = 0; register <= 3; register++) {
            x.branch(register, R0_LIKE_0, register * 10000 + 100, register);
        }
        for (int register = 3; register >= 0; register--) {
            x.call(register, 15 - register);
        }
        for (int register = 0; register <= 3; register++) {
            Check.due("register " + register, x.register(register), 15 - register);
        }
        Check.due("register 4", x.register(4), NONE);
        for (int wrong : WRONG) {
            Check.due("a wrong register", x.register(wrong), NONE);
        }
        x.change(3, R0_LIKE_0, 30000, 3);
        x.make(1);
        x.run();
        x.reached();
        Check.due("register as it went", x.register(3), 12);
    }

    private static void count() {
        TestsFromUse x = counter();
        x.call(0, 0);
        x.call(1, 2);
        x.call(0, 0);
        x.call(5, 0);
        x.make(0);
        x.make(1);
        x.make(2);
        Check.due("no result would differ", x.count(5), 0);
        x.change(0, 15, 1002, 0);
        int[] due = {4, 3, 2, 2, 0, 2};
        for (int what = 0; what <= 5; what++) {
            Check.due("count(" + what + ")", x.count(what), due[what]);
        }
        x.run();
        x.branch(5, R3_LIKE_0, 9, 0);
        int[] later = {4, 3, 3, 0, 2, 3};
        for (int what = 0; what <= 5; what++) {
            Check.due("count(" + what + ") later", x.count(what), later[what]);
        }
        Check.due("count(6)", x.count(6), NONE);
        for (int wrong : WRONG) {
            Check.due("count of a wrong what", x.count(wrong), NONE);
        }
    }
}
