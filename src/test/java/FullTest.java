/** Full: 4 branches of a kind, a log of 200 calls, 12 tests, and the 512 calls of an object. */
public final class FullTest {
    private static final int NONE = TestsFromUse.NONE;
    private static final int ALWAYS = 3100;
    private static final int NEVER = 0;
    private static final int LOG_LIMIT = 200;
    private static final int TEST_LIMIT = 12;
    private static final int PROMISED_CALLS = 512;

    /** The calls that twelve() makes: a branch, 13 calls, a test of each but the last. */
    private static final int CALLS_OF_TWELVE = 1 + 13 + TEST_LIMIT;

    public static void main(String[] args) {
        fourBranchesOfAKind();
        aFullKindLeavesRoomInOthers();
        aFifthBranchTouchesNothing();
        theFourthBranch();
        aFullLog();
        aFullLogAndWhatIsRefusedAnyway();
        aFullLogRunNow();
        aFullLogBeginsAnew();
        aTestOfAFullLog();
        theShortestTestOfAFullLog();
        twelveTests();
        twelveTestsAndWhatIsRefusedAnyway();
        dropsOfTwelve();
        allOfTwelveBreak();
        allOfTwelveAreNeeded();
        oneOfTwelveIsEnough();
        likeOnes();
        theLastPromisedCall();
        manyMakesOfAFullLog();
        Check.end();
    }

    /** "How many the KIND has"; "NONE if .. there are 4". */
    private static void fourBranchesOfAKind() {
        for (int kind = 0; kind <= 5; kind++) {
            TestsFromUse x = new TestsFromUse();
            for (int many = 1; many <= 4; many++) {
                Check.due("branch " + many + " of kind " + kind, x.branch(kind, NEVER, 0, 0), many);
            }
            Check.due("branch 5 of kind " + kind, x.branch(kind, ALWAYS, 7, 0), NONE);
            Check.due("branch 6 of kind " + kind, x.branch(kind, ALWAYS, 7, 0), NONE);
            Check.due("four branches", x.count(2), 4);
            Check.due("four bits", x.never(), 15 << (4 * kind));
            Check.due("the refused one is not taken", x.call(kind, 0), NONE);
            Check.due("a change needs no room", x.change(4 * kind + 3, ALWAYS, 7, 0), true);
            Check.due("the changed one is taken", x.call(kind, 0), 7);
            Check.due("still four", x.branch(kind, ALWAYS, 7, 0), NONE);
        }
    }

    private static void aFullKindLeavesRoomInOthers() {
        TestsFromUse x = new TestsFromUse();
        for (int many = 1; many <= 4; many++) {
            for (int kind = 0; kind <= 5; kind++) {
                Check.due("branch " + many + " of kind " + kind, x.branch(kind, ALWAYS, kind, 0), many);
                Check.due("branches in all", x.count(2), 6 * (many - 1) + kind + 1);
            }
        }
        for (int kind = 0; kind <= 5; kind++) {
            Check.due("one more of kind " + kind, x.branch(kind, ALWAYS, 0, 0), NONE);
        }
        Check.due("24 branches", x.count(2), 24);
        Check.due("24 bits", x.never(), (1 << 24) - 1);
        Check.due("kind 6 is none", x.branch(6, ALWAYS, 0, 0), NONE);
    }

    private static void aFifthBranchTouchesNothing() {
        TestsFromUse x = new TestsFromUse();
        for (int place = 0; place < 4; place++) {
            x.branch(2, ALWAYS, 1, 0);
        }
        x.call(2, 0);
        x.make(0);
        Check.due("a fifth branch", x.branch(2, ALWAYS, 1, 0), NONE);
        Check.due("it touches nothing", x.told(0, 1), 0);
    }

    /** The fourth branch is taken only where the three ahead of it don't hold. */
    private static void theFourthBranch() {
        TestsFromUse x = new TestsFromUse();
        x.branch(3, 100, 1001, 0);
        x.branch(3, 101, 1001, 0);
        x.branch(3, 102, 1001, 0);
        x.branch(3, 103, 1001, 0);
        for (int place = 0; place < 4; place++) {
            Check.due("call " + place, x.call(3, 0), place + 1);
            Check.due("branch of call " + place, x.logged(place, 3), 12 + place);
        }
        Check.due("behind the fourth", x.call(3, 0), NONE);
        Check.due("its branch", x.logged(4, 3), NONE);
        Check.due("nothing changes", x.register(0), 4);
    }

    /** Kind 0 counts register 0 up, round by 16; kind 1 has no branch. */
    private static TestsFromUse fullLog() {
        TestsFromUse x = new TestsFromUse();
        x.branch(0, ALWAYS, 1001, 0);
        for (int i = 0; i < LOG_LIMIT; i++) {
            x.call(0, i % 16);
        }
        return x;
    }

    /** "NONE also if .. the LOG has 200 (then it isn't logged)". */
    private static void aFullLog() {
        TestsFromUse x = new TestsFromUse();
        x.branch(0, ALWAYS, 1001, 0);
        for (int i = 0; i < LOG_LIMIT; i++) {
            Check.due("calls ahead of call " + i, x.count(0), i);
            Check.due("call " + i, x.call(0, i % 16), (i + 1) % 16);
        }
        Check.due("call 200", x.call(0, 5), NONE);
        Check.due("call 201", x.call(0, 5), NONE);
        Check.due("200 calls", x.count(0), LOG_LIMIT);
        Check.due("the register is as it was", x.register(0), LOG_LIMIT % 16);
        Check.due("kind of the last call", x.logged(199, 0), 0);
        Check.due("number of the last call", x.logged(199, 1), 199 % 16);
        Check.due("result of the last call", x.logged(199, 2), 200 % 16);
        Check.due("branch of the last call", x.logged(199, 3), 0);
        Check.due("the first call stays", x.logged(0, 2), 1);
        for (int what = 0; what <= 3; what++) {
            Check.due("logged(200, " + what + ")", x.logged(200, what), NONE);
        }
        Check.due("make(200)", x.make(200), NONE);
        Check.due("no result would differ", x.count(5), 0);
    }

    private static void aFullLogAndWhatIsRefusedAnyway() {
        TestsFromUse x = fullLog();
        Check.due("a call without a branch", x.call(1, 0), NONE);
        Check.due("no such kind", x.call(6, 0), NONE);
        Check.due("no such number", x.call(0, 16), NONE);
        Check.due("200 calls", x.count(0), LOG_LIMIT);
        Check.due("the register is as it was", x.register(0), LOG_LIMIT % 16);
        Check.due("a branch may come", x.branch(1, ALWAYS, 9, 0), 1);
        Check.due("but no call of it", x.call(1, 0), NONE);
        Check.due("it is never reached", x.never(), 1 << 4);
    }

    /** All 200 calls are run NOW, the last one too. */
    private static void aFullLogRunNow() {
        TestsFromUse x = fullLog();
        x.change(0, ALWAYS, 1002, 0);
        Check.due("results that differ, but for i * 2 alike i by 16", x.count(5), LOG_LIMIT - LOG_LIMIT / 16);
        x.change(0, ALWAYS, 20000, 3);
        Check.due("NOW all are 0: those that were 0 do not differ", x.count(5), LOG_LIMIT - LOG_LIMIT / 16);
        x.change(0, NEVER, 0, 0);
        Check.due("all of them", x.count(5), LOG_LIMIT);
        Check.due("reached", x.reached(), 0);
        TestsFromUse y = new TestsFromUse();
        y.branch(0, ALWAYS, 1001, 0);
        y.branch(1, ALWAYS, 1001, 0);
        for (int i = 0; i < LOG_LIMIT - 1; i++) {
            y.call(0, 0);
        }
        y.call(1, 0);
        Check.due("the last call is met", y.reached(), 1 | 1 << 4);
        y.change(4, ALWAYS, 1002, 0);
        Check.due("the last call alone differs", y.count(5), 1);
    }

    private static void aFullLogBeginsAnew() {
        TestsFromUse x = fullLog();
        x.call(0, 0);
        Check.due("fresh", x.fresh(), LOG_LIMIT);
        Check.due("an empty log", x.count(0), 0);
        Check.due("register", x.register(0), 0);
        for (int i = 0; i < LOG_LIMIT; i++) {
            Check.due("call " + i + " anew", x.call(0, 0), (i + 1) % 16);
        }
        Check.due("full again", x.call(0, 0), NONE);
        Check.due("200 again", x.fresh(), LOG_LIMIT);
    }

    /** A row of all 200 calls: with any one call left out the last result is another one. */
    private static void aTestOfAFullLog() {
        TestsFromUse x = fullLog();
        Check.due("make(199)", x.make(199), 0);
        Check.due("its row has 200 calls", x.told(0, 0), LOG_LIMIT);
        for (int k = 0; k < LOG_LIMIT; k += 33) {
            Check.due("number of call " + k, x.row(0, k, 1), k % 16);
            Check.due("result of call " + k, x.row(0, k, 2), (k + 1) % 16);
        }
        Check.due("the last call", x.row(0, 199, 1), 199 % 16);
        Check.due("the last result", x.row(0, 199, 2), 200 % 16);
        for (int what = 0; what <= 3; what++) {
            Check.due("row(0, 200, " + what + ")", x.row(0, 200, what), NONE);
        }
        Check.due("make(199) again", x.make(199), NONE);
        Check.due("make(198) is one shorter", x.make(198), 1);
        Check.due("it is", x.told(1, 0), LOG_LIMIT - 1);
        Check.due("none differs", x.differs(0), NONE);
        x.branch(1, ALWAYS, 1001, 0);
        Check.due("no call of kind 1", x.count(3), 0);
        x.change(0, ALWAYS, 1000, 0);
        Check.due("the first differs", x.differs(0), 0);
        Check.due("both break", x.run(), 2);
        Check.due("accept", x.accept(0), true);
        Check.due("the last result NOW", x.row(0, 199, 2), 0);
        lastOfAFullRow();
    }

    private static void lastOfAFullRow() {
        TestsFromUse x = new TestsFromUse();
        x.branch(0, ALWAYS, 1001, 0);
        x.branch(1, ALWAYS, 1001, 0);
        for (int i = 0; i < LOG_LIMIT - 1; i++) {
            x.call(0, 0);
        }
        x.call(1, 0);
        x.make(199);
        Check.due("a row of 200", x.told(0, 0), LOG_LIMIT);
        x.change(4, ALWAYS, 1002, 0);
        Check.due("the last call alone differs", x.differs(0), 199);
        Check.due("it was met", x.told(0, 1), 1);
    }

    /** 199 calls ahead, none of which is needed. */
    private static void theShortestTestOfAFullLog() {
        TestsFromUse x = new TestsFromUse();
        x.branch(0, ALWAYS, 1001, 0);
        x.branch(1, ALWAYS, 10100, 1);
        for (int i = 0; i < LOG_LIMIT - 1; i++) {
            x.call(0, 0);
        }
        x.call(1, 11);
        Check.due("make(199)", x.make(199), 0);
        Check.due("its row has one call", x.told(0, 0), 1);
        Check.due("its kind", x.row(0, 0, 0), 1);
        Check.due("its number", x.row(0, 0, 1), 11);
        Check.due("the log stays whole", x.count(0), LOG_LIMIT);
        Check.due("it met its branch alone", x.told(0, 4), 1 << 4);
    }

    /** Kind 0 gives register 1 the number, so call i needs no setup; a thirteenth call is there too. */
    private static TestsFromUse twelve() {
        TestsFromUse x = new TestsFromUse();
        x.branch(0, ALWAYS, 10100, 1);
        for (int number = 0; number < 13; number++) {
            x.call(0, number);
        }
        for (int i = 0; i < TEST_LIMIT; i++) {
            Check.due("make(" + i + ")", x.make(i), i);
        }
        return x;
    }

    /** "NONE if .. there are 12". */
    private static void twelveTests() {
        TestsFromUse x = twelve();
        Check.due("make(12)", x.make(12), NONE);
        Check.due("12 tests", x.count(1), TEST_LIMIT);
        Check.due("told(12)", x.told(12, 0), NONE);
        Check.due("the last test stays", x.row(11, 0, 1), 11);
        Check.due("the first test stays", x.row(0, 0, 1), 0);
        TestsFromUse y = twelve();
        y.make(12);
        Answers.dueAlike("behind a thirteenth make", y, twelve(), CALLS_OF_TWELVE + 1);
    }

    private static void twelveTestsAndWhatIsRefusedAnyway() {
        TestsFromUse x = twelve();
        Check.due("a like one", x.make(3), NONE);
        Check.due("no such call", x.make(13), NONE);
        Check.due("no such call", x.make(-1), NONE);
        Answers.dueAlike("behind refused makes", x, twelve(), CALLS_OF_TWELVE + 3);
    }

    /** "The TEST goes (those behind it come up)": the first, one in between, the last, each of a full heap. */
    private static void dropsOfTwelve() {
        for (int gone = 0; gone < TEST_LIMIT; gone++) {
            TestsFromUse x = twelve();
            Check.due("drop(12)", x.drop(12), false);
            Check.due("drop(" + gone + ")", x.drop(gone), true);
            Check.due("11 tests", x.count(1), TEST_LIMIT - 1);
            Check.due("told(11)", x.told(11, 0), NONE);
            for (int test = 0; test < TEST_LIMIT - 1; test++) {
                Check.due("test " + test + " behind drop(" + gone + ")",
                    x.row(test, 0, 1), test < gone ? test : test + 1);
            }
            Check.due("a new one is the last", x.make(12), 11);
            Check.due("it is there", x.row(11, 0, 1), 12);
            Check.due("full again", x.make(gone), NONE);
        }
    }

    /** "How many break": all 12. */
    private static void allOfTwelveBreak() {
        TestsFromUse x = twelve();
        x.change(0, ALWAYS, 10101, 1);
        Check.due("all are touched", x.count(3), TEST_LIMIT);
        Check.due("none is broken yet", x.count(4), 0);
        Check.due("all break", x.run(), TEST_LIMIT);
        Check.due("none is touched any more", x.count(3), 0);
        Check.due("all are broken", x.count(4), TEST_LIMIT);
        for (int test = 0; test < TEST_LIMIT; test++) {
            Check.due("accept(" + test + ")", x.accept(test), true);
            Check.due("broken ones", x.count(4), TEST_LIMIT - 1 - test);
        }
        x.branch(0, NEVER, 0, 0);
        Check.due("a branch more touches all", x.count(3), TEST_LIMIT);
        Check.due("none breaks", x.run(), 0);
    }

    /** Twelve tests, each of which meets a branch that no other one meets. */
    private static void allOfTwelveAreNeeded() {
        TestsFromUse x = new TestsFromUse();
        x.branch(0, ALWAYS, 100, 0);
        for (int kind = 1; kind <= 3; kind++) {
            for (int value = 1; value <= 4; value++) {
                x.branch(kind, 100 + value, 11000, 1);
            }
        }
        int tests = 0;
        for (int kind = 1; kind <= 3; kind++) {
            for (int value = 1; value <= 4; value++) {
                x.call(0, value);
                x.call(kind, 0);
                Check.due("make", x.make(2 * tests + 1), tests);
                Check.due("its row has two calls", x.told(tests, 0), 2);
                tests++;
            }
        }
        Check.due("fewest", x.fewest(), TEST_LIMIT);
        Check.due("chosen", x.chosen(), (1 << TEST_LIMIT) - 1);
        x.drop(11);
        Check.due("fewest of eleven", x.fewest(), TEST_LIMIT - 1);
        Check.due("chosen of eleven", x.chosen(), (1 << (TEST_LIMIT - 1)) - 1);
    }

    /** "The heap .. that is least as a number": of twelve that meet the same, the first one. */
    private static void oneOfTwelveIsEnough() {
        TestsFromUse x = twelve();
        Check.due("fewest", x.fewest(), 1);
        Check.due("chosen", x.chosen(), 1);
        x.branch(1, ALWAYS, 10100, 1);
        x.drop(11);
        x.call(1, 0);
        x.make(13);
        Check.due("fewest with another kind", x.fewest(), 2);
        Check.due("chosen with another kind", x.chosen(), 1 | 1 << 11);
    }

    /** "A TEST with the same ROW as one that is there isn't made": the same calls in the same order, no fewer. */
    private static void likeOnes() {
        TestsFromUse x = new TestsFromUse();
        x.branch(0, ALWAYS, 1100, 0);
        x.branch(1, ALWAYS, 1100, 0);
        x.call(0, 1);
        x.call(1, 2);
        Check.due("make(0)", x.make(0), 0);
        Check.due("a row that begins with it is another one", x.make(1), 1);
        Check.due("like the first", x.make(0), NONE);
        Check.due("like the last", x.make(1), NONE);
        x.fresh();
        x.call(0, 2);
        Check.due("another number", x.make(0), 2);
        x.fresh();
        x.call(1, 1);
        Check.due("another kind", x.make(0), 3);
        x.call(0, 2);
        Check.due("other calls with the same sum", x.make(1), 4);
        x.fresh();
        x.call(1, 2);
        x.call(0, 1);
        Check.due("another order", x.make(1), 5);
        x.fresh();
        x.call(0, 1);
        x.call(1, 2);
        Check.due("the same calls of a new log", x.make(1), NONE);
        Check.due("six tests", x.count(1), 6);
        x.drop(1);
        Check.due("a like one is gone", x.make(1), 5);
    }

    /** "At most 512 calls": the last one of them is answered as the document says. */
    private static void theLastPromisedCall() {
        int inLog = PROMISED_CALLS - 1 - 1 - 2 * (LOG_LIMIT + 1);
        Check.due("a call at last", allButTheLastCall().call(0, 0), (inLog + 1) % 16);
        Check.due("fresh at last", allButTheLastCall().fresh(), inLog);
        Check.due("count at last", allButTheLastCall().count(0), inLog);
        Check.due("make at last", allButTheLastCall().make(inLog - 1), 0);
        Check.due("branch at last", allButTheLastCall().branch(0, ALWAYS, 0, 0), 2);
        Check.due("change at last", allButTheLastCall().change(0, ALWAYS, 0, 0), true);
        Check.due("logged at last", allButTheLastCall().logged(inLog - 1, 2), inLog % 16);
        Check.due("register at last", allButTheLastCall().register(0), inLog % 16);
        Check.due("reached at last", allButTheLastCall().reached(), 1);
    }

    private static TestsFromUse allButTheLastCall() {
        TestsFromUse x = new TestsFromUse();
        x.branch(0, ALWAYS, 1001, 0);
        int inLog = 0;
        for (int calls = 1; calls < PROMISED_CALLS - 1; calls++) {
            if (inLog == LOG_LIMIT) {
                x.fresh();
                inLog = 0;
            } else {
                x.call(0, 0);
                inLog++;
            }
        }
        return x;
    }

    /** The dearest use: a test after the other of a full log, each of which is dropped again. */
    private static void manyMakesOfAFullLog() {
        TestsFromUse x = fullLog();
        int calls = 1 + LOG_LIMIT;
        for (int i = LOG_LIMIT - 1; calls + 3 <= PROMISED_CALLS; i--) {
            Check.due("make(" + i + ")", x.make(i), 0);
            Check.due("its length", x.told(0, 0), i + 1);
            Check.due("drop(0)", x.drop(0), true);
            calls += 3;
        }
    }
}
