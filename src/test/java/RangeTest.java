/** Too small and too large: for each range of the document its ends, and the numbers next to them. */
public final class RangeTest {
    private static final int NONE = TestsFromUse.NONE;
    private static final int ALWAYS = 3100;
    private static final int NEVER = 0;
    private static final int[] FAR = {Integer.MIN_VALUE, -1000000, 1000000, Integer.MAX_VALUE};

    /** An object is used for at most 512 calls; a test over many inputs takes a new one ahead of that. */
    private static final int CALLS_OF_ONE = 500;

    public static void main(String[] args) {
        registersOfAnswers();
        kindsOfBranches();
        everyWhen();
        everyThen();
        results();
        whichBits();
        partsOfWhen();
        partsOfThen();
        conditionsAtTheirEnds();
        kindsOfCalls();
        numbersOfCalls();
        placesInTheLog();
        callsToMakeTestsOf();
        placesOfTests();
        placesInARow();
        whats();
        lengthsOfRows();
        firstAndLastDifference();
        firstAndLastBranch();
        Check.end();
    }

    private static boolean isIn(int value, int first, int last) {
        return first <= value && value <= last;
    }

    /** A kind that always takes its one branch, for each kind: it gives register 1 the number. */
    private static TestsFromUse plain() {
        TestsFromUse x = new TestsFromUse();
        for (int kind = 0; kind <= 5; kind++) {
            x.branch(kind, ALWAYS, 10100, 1);
        }
        return x;
    }

    /** "REGISTERS 0 .. 3"; "NONE if there is none such". */
    private static void registersOfAnswers() {
        TestsFromUse x = new TestsFromUse();
        for (int register = -2; register <= 6; register++) {
            Check.due("register(" + register + ")", x.register(register), isIn(register, 0, 3) ? 0 : NONE);
        }
        for (int far : FAR) {
            Check.due("register(" + far + ")", x.register(far), NONE);
        }
    }

    /** "KINDS 0 .. 5"; "NONE if there is no such KIND". */
    private static void kindsOfBranches() {
        TestsFromUse x = new TestsFromUse();
        for (int kind = -2; kind <= 8; kind++) {
            Check.due("branch of kind " + kind, x.branch(kind, 0, 0, 0), isIn(kind, 0, 5) ? 1 : NONE);
        }
        for (int far : FAR) {
            Check.due("branch of kind " + far, x.branch(far, 0, 0, 0), NONE);
        }
        Check.due("six kinds", x.count(2), 6);
    }

    /** "When is REGISTER * 1000 + how * 100 + value": 0 .. 3, 0 .. 2, 0 .. 15. */
    private static boolean isWhen(int when) {
        for (int register = 0; register <= 3; register++) {
            for (int how = 0; how <= 2; how++) {
                if (isIn(when - register * 1000 - how * 100, 0, 15)) {
                    return true;
                }
            }
        }
        return false;
    }

    /** "Then is REGISTER * 10000 + m * 1000 + k * 100 + a": 0 .. 3, 0 .. 9, 0 .. 9, 0 .. 15. */
    private static boolean isThen(int then) {
        for (int upper = 0; upper < 4 * 10 * 10; upper++) {
            if (isIn(then - upper * 100, 0, 15)) {
                return true;
            }
        }
        return false;
    }

    private static void everyWhen() {
        Pair pair = new Pair();
        for (int when = -4500; when <= 5500; when++) {
            pair.due(when, 0, 0, isWhen(when));
        }
        for (int far : FAR) {
            pair.due(far, 0, 0, false);
        }
    }

    private static void everyThen() {
        Pair pair = new Pair();
        for (int then = -1000; then <= 41000; then++) {
            pair.due(0, then, 0, isThen(then));
        }
        for (int then = -50000; then < -1000; then += 7) {
            pair.due(0, then, 0, false);
        }
        for (int far : FAR) {
            pair.due(0, far, 0, false);
        }
    }

    /** "Result a REGISTER": 0 .. 3. */
    private static void results() {
        Pair pair = new Pair();
        for (int result = -20; result <= 20; result++) {
            pair.due(0, 0, result, isIn(result, 0, 3));
        }
        for (int far : FAR) {
            pair.due(0, 0, far, false);
        }
    }

    /** Puts the same question to branch and to change. */
    private static final class Pair {
        private TestsFromUse x;
        private int calls = CALLS_OF_ONE;
        private int branches;

        void due(int when, int then, int result, boolean canBe) {
            if (calls >= CALLS_OF_ONE || branches == 4) {
                x = new TestsFromUse();
                x.branch(5, 0, 0, 0);
                calls = 1;
                branches = 0;
            }
            String name = "(" + when + ", " + then + ", " + result + ")";
            branches += canBe ? 1 : 0;
            Check.due("branch " + name, x.branch(0, when, then, result), canBe ? branches : NONE);
            Check.due("change " + name, x.change(20, when, then, result), canBe);
            calls += 2;
        }
    }

    /** "Which is its bit": 0 .. 23, and only where there is a branch. */
    private static void whichBits() {
        TestsFromUse x = plain();
        for (int which = -5; which <= 70; which++) {
            Check.due("change(" + which + ")", x.change(which, ALWAYS, 10100, 1),
                isIn(which, 0, 23) && which % 4 == 0);
        }
        for (int far : FAR) {
            Check.due("change(" + far + ")", x.change(far, ALWAYS, 10100, 1), false);
        }
        Check.due("no branch more", x.count(2), 6);
    }

    /** The register, the how and the value of a condition are read from their own places in it. */
    private static void partsOfWhen() {
        int[] values = {0, 1, 9, 10, 14, 15};
        for (int register = 0; register <= 3; register++) {
            for (int value : values) {
                for (int now : values) {
                    TestsFromUse x = new TestsFromUse();
                    x.branch(0, 100, register * 10000 + 100, register);
                    x.branch(1, register * 1000 + value, 1000, register);
                    x.branch(2, register * 1000 + 100 + value, 1000, register);
                    x.branch(3, register * 1000 + 200 + value, 1000, register);
                    x.call(0, now);
                    String name = "register " + register + " is " + now + ", value " + value + ": ";
                    Check.due(name + "below", x.call(1, 0), now < value ? now : NONE);
                    Check.due(name + "like", x.call(2, 0), now == value ? now : NONE);
                    Check.due(name + "above", x.call(3, 0), now > value ? now : NONE);
                }
            }
        }
    }

    /** "m, k 0 .. 9, a 0 .. 15": the ends of each, with the others at an end too. */
    private static void partsOfThen() {
        int[] digits = {0, 1, 8, 9};
        int[] added = {0, 1, 9, 10, 14, 15};
        for (int register = 0; register <= 3; register++) {
            for (int m : digits) {
                for (int k : digits) {
                    for (int a : added) {
                        partsOfThen(register, m, k, a);
                    }
                }
            }
        }
    }

    private static void partsOfThen(int register, int m, int k, int a) {
        TestsFromUse x = new TestsFromUse();
        int then = register * 10000 + m * 1000 + k * 100 + a;
        int untouchedIsLike0 = (register == 3 ? 2 : 3) * 1000 + 100;
        x.branch(0, untouchedIsLike0, register * 10000 + 101, register);
        x.branch(1, untouchedIsLike0, then, register);
        x.call(0, 4);
        Check.due("effect " + then, x.call(1, 3), (m * 5 + k * 3 + a) % 16);
        for (int other = 0; other <= 3; other++) {
            if (other != register) {
                Check.due("effect " + then + " leaves register " + other, x.register(other), 0);
            }
        }
    }

    /** A condition below 0 or above 15 can be, but holds for no value; one more or less holds for one. */
    private static void conditionsAtTheirEnds() {
        for (int now = 0; now <= 15; now++) {
            TestsFromUse x = new TestsFromUse();
            x.branch(0, ALWAYS, 100, 0);
            Check.due("below 0 can be", x.branch(1, 0, 1000, 0), 1);
            Check.due("above 15 can be", x.branch(2, 215, 1000, 0), 1);
            x.branch(3, 1, 1000, 0);
            x.branch(4, 214, 1000, 0);
            x.call(0, now);
            Check.due(now + " below 0", x.call(1, 0), NONE);
            Check.due(now + " above 15", x.call(2, 0), NONE);
            Check.due(now + " below 1", x.call(3, 0), now == 0 ? 0 : NONE);
            Check.due(now + " above 14", x.call(4, 0), now == 15 ? 15 : NONE);
        }
    }

    /** "NONE also if there is no such KIND". */
    private static void kindsOfCalls() {
        TestsFromUse x = plain();
        int logged = 0;
        for (int kind = -2; kind <= 8; kind++) {
            logged += isIn(kind, 0, 5) ? 1 : 0;
            Check.due("call(" + kind + ", 7)", x.call(kind, 7), isIn(kind, 0, 5) ? 7 : NONE);
            Check.due("calls behind kind " + kind, x.count(0), logged);
        }
        for (int far : FAR) {
            Check.due("call(" + far + ", 7)", x.call(far, 7), NONE);
        }
        Check.due("six calls", x.count(0), 6);
    }

    /** "NONE also if there is no such .. NUMBER": 0 .. 15. */
    private static void numbersOfCalls() {
        TestsFromUse x = plain();
        int logged = 0;
        for (int number = -2; number <= 18; number++) {
            logged += isIn(number, 0, 15) ? 1 : 0;
            Check.due("call(3, " + number + ")", x.call(3, number), isIn(number, 0, 15) ? number : NONE);
            Check.due("calls behind number " + number, x.count(0), logged);
        }
        for (int far : FAR) {
            Check.due("call(3, " + far + ")", x.call(3, far), NONE);
        }
        Check.due("the last number stays", x.register(1), 15);
        Check.due("sixteen calls", x.count(0), 16);
    }

    /** The place of a call of the log: 0 up to the last one. */
    private static void placesInTheLog() {
        TestsFromUse x = plain();
        for (int many = 0; many <= 3; many++) {
            for (int i = -2; i <= 5; i++) {
                boolean there = isIn(i, 0, many - 1);
                Check.due("kind of call " + i + " of " + many, x.logged(i, 0), there ? 5 - i : NONE);
                Check.due("number of call " + i + " of " + many, x.logged(i, 1), there ? i + 9 : NONE);
                Check.due("result of call " + i + " of " + many, x.logged(i, 2), there ? i + 9 : NONE);
                Check.due("branch of call " + i + " of " + many, x.logged(i, 3), there ? 4 * (5 - i) : NONE);
            }
            x.call(5 - many, many + 9);
        }
    }

    /** "NONE if there is no such CALL". */
    private static void callsToMakeTestsOf() {
        TestsFromUse x = plain();
        for (int number = 0; number < 3; number++) {
            x.call(0, number);
        }
        int tests = 0;
        for (int i = -2; i <= 5; i++) {
            Check.due("make(" + i + ")", x.make(i), isIn(i, 0, 2) ? tests : NONE);
            tests += isIn(i, 0, 2) ? 1 : 0;
            Check.due("tests behind make(" + i + ")", x.count(1), tests);
        }
        for (int far : FAR) {
            Check.due("make(" + far + ")", x.make(far), NONE);
        }
    }

    /** The place of a test: 0 up to the last one, for each method that takes one. */
    private static void placesOfTests() {
        for (int many = 0; many <= 3; many++) {
            for (int test = -2; test <= 5; test++) {
                TestsFromUse x = plain();
                for (int i = 0; i < many; i++) {
                    x.call(i, 8 + i);
                    x.make(i);
                }
                x.change(4 * Math.max(0, test) % 24, ALWAYS, 10101, 1);
                boolean there = isIn(test, 0, many - 1);
                String name = "test " + test + " of " + many + ": ";
                Check.due(name + "told", x.told(test, 0), there ? 1 : NONE);
                Check.due(name + "row", x.row(test, 0, 1), there ? 8 + test : NONE);
                Check.due(name + "differs", x.differs(test), there ? 0 : NONE);
                Check.due(name + "accept", x.accept(test), there);
                Check.due(name + "drop", x.drop(test), there);
                Check.due(name + "tests behind drop", x.count(1), there ? many - 1 : many);
            }
        }
    }

    /** The place of a call in a row: 0 up to the last one. */
    private static void placesInARow() {
        TestsFromUse x = new TestsFromUse();
        x.branch(0, ALWAYS, 1001, 0);
        for (int i = 0; i < 3; i++) {
            x.call(0, i + 4);
            x.make(i);
        }
        x.change(0, ALWAYS, 1002, 0);
        for (int test = 0; test < 3; test++) {
            for (int k = -2; k <= 5; k++) {
                boolean there = isIn(k, 0, test);
                String name = "call " + k + " of test " + test + ": ";
                Check.due(name + "kind", x.row(test, k, 0), there ? 0 : NONE);
                Check.due(name + "number", x.row(test, k, 1), there ? k + 4 : NONE);
                Check.due(name + "asked", x.row(test, k, 2), there ? k + 1 : NONE);
                Check.due(name + "given", x.row(test, k, 3), there ? 2 * k + 2 : NONE);
            }
            for (int far : FAR) {
                Check.due("call " + far + " of test " + test, x.row(test, far, 3), NONE);
            }
        }
    }

    /** "NONE for others": what is asked of logged (0 .. 3), told (0 .. 5), row (0 .. 3), count (0 .. 5). */
    private static void whats() {
        TestsFromUse x = plain();
        x.call(1, 2);
        x.make(0);
        for (int what = -3; what <= 9; what++) {
            Check.due("logged " + what, x.logged(0, what) != NONE, isIn(what, 0, 3));
            Check.due("told " + what, x.told(0, what) != NONE, isIn(what, 0, 5));
            Check.due("row " + what, x.row(0, 0, what) != NONE, isIn(what, 0, 3));
            Check.due("count " + what, x.count(what) != NONE, isIn(what, 0, 5));
        }
        for (int far : FAR) {
            Check.due("logged " + far, x.logged(0, far), NONE);
            Check.due("told " + far, x.told(0, far), NONE);
            Check.due("row " + far, x.row(0, 0, far), NONE);
            Check.due("count " + far, x.count(far), NONE);
        }
    }

    /** A setup may be empty, and may be all calls ahead; call 0 has none ahead of it. */
    private static void lengthsOfRows() {
        TestsFromUse x = new TestsFromUse();
        x.branch(0, ALWAYS, 1001, 0);
        x.branch(1, ALWAYS, 10100, 1);
        x.call(0, 0);
        x.call(0, 0);
        x.call(1, 6);
        x.call(0, 0);
        Check.due("make(0)", x.make(0), 0);
        Check.due("call 0 alone", x.told(0, 0), 1);
        Check.due("make(1)", x.make(1), 1);
        Check.due("all calls ahead", x.told(1, 0), 2);
        Check.due("make(2)", x.make(2), 2);
        Check.due("no call ahead", x.told(2, 0), 1);
        Check.due("its kind", x.row(2, 0, 0), 1);
        Check.due("make(3)", x.make(3), 3);
        Check.due("two calls ahead", x.told(3, 0), 3);
    }

    /** "The first CALL of its ROW whose RESULT differs NOW": the first, the last, and NONE against a value. */
    private static void firstAndLastDifference() {
        TestsFromUse x = new TestsFromUse();
        x.branch(0, 100, 1001, 0);
        x.branch(0, 101, 1001, 0);
        x.branch(0, 102, 1001, 0);
        for (int i = 0; i < 4; i++) {
            x.call(0, 0);
        }
        x.make(3);
        Check.due("the whole row", x.told(0, 0), 4);
        Check.due("none differs", x.differs(0), NONE);
        Check.due("it would not break", x.told(0, 3), 0);
        x.branch(0, 103, 1001, 0);
        Check.due("the last one alone, NONE before", x.differs(0), 3);
        Check.due("it would break", x.told(0, 3), 1);
        x.change(3, NEVER, 0, 0);
        Check.due("none again", x.differs(0), NONE);
        x.change(0, NEVER, 0, 0);
        Check.due("the first one, NONE now", x.differs(0), 0);
    }

    /** "BRANCH b of KIND c has the bit 4 c + b": the first of all and the last of all. */
    private static void firstAndLastBranch() {
        TestsFromUse x = new TestsFromUse();
        x.branch(0, ALWAYS, 1000, 0);
        for (int place = 0; place < 3; place++) {
            x.branch(5, NEVER, 0, 0);
        }
        x.branch(5, ALWAYS, 1000, 0);
        x.call(0, 0);
        x.call(5, 0);
        x.make(0);
        x.make(1);
        Check.due("the first branch", x.logged(0, 3), 0);
        Check.due("the last branch", x.logged(1, 3), 23);
        Check.due("reached", x.reached(), 1 | 1 << 23);
        Check.due("never", x.never(), 7 << 20);
        Check.due("met the first", x.told(0, 4), 1);
        Check.due("met the last", x.told(1, 4), 1 << 23);
        x.change(23, ALWAYS, 1001, 0);
        Check.due("a change of the last touches the one that met it", x.told(1, 1), 1);
        Check.due("and no other", x.told(0, 1), 0);
        x.change(0, ALWAYS, 1001, 0);
        Check.due("a change of the first touches the other", x.told(0, 1), 1);
    }
}
