/**
 * A maker of tests from use: calls to a small machine are logged, tests are made of logged calls,
 * and when the machine changes, the tests that met the change are run.
 *
 * <p>A state of the machine is one int, four bits for each register, and a call is one int too, so
 * that running a row of calls makes no objects. A branch is known by its bit, 4 * kind + place.
 */
public final class TestsFromUse {
    public static final int NONE = -1;

    private static final int REGISTERS = 4;
    private static final int REGISTER_BITS = 4;
    private static final int VALUES = 16;
    private static final int KINDS = 6;
    private static final int PLACES = 4;
    private static final int BRANCHES = KINDS * PLACES;
    private static final int LOG_LIMIT = 200;
    private static final int TEST_LIMIT = 12;
    private static final int FIRST_STATE = 0;

    private final Machine machine;
    private final Log log;
    private final Suite suite;
    private final Replay replay;
    private final Shortener shortener;

    public TestsFromUse() {
        machine = new Machine();
        log = new Log();
        suite = new Suite();
        replay = new Replay(machine);
        shortener = new Shortener(machine);
    }

    public int branch(int kind, int when, int then, int result) {
        if (!machine.hasRoom(kind) || !Branch.canBe(when, then, result)) {
            return NONE;
        }
        suite.touchCallersOf(kind);
        return machine.add(kind, new Branch(when, then, result));
    }

    public boolean change(int which, int when, int then, int result) {
        if (!machine.has(which) || !Branch.canBe(when, then, result)) {
            return false;
        }
        suite.touchThoseThatMet(which);
        machine.put(which, new Branch(when, then, result));
        return true;
    }

    public int call(int kind, int number) {
        if (!isBelow(kind, KINDS) || !isBelow(number, VALUES)) {
            return NONE;
        }
        return log.add(callOf(kind, number), machine);
    }

    public int fresh() {
        return log.clear();
    }

    public int logged(int i, int what) {
        return log.tell(i, what);
    }

    public int make(int i) {
        MadeTest test = suite.spare();
        if (test == null || !isBelow(i, log.size())) {
            return NONE;
        }
        test.row.copyStart(log.row, i + 1);
        replay.play(test.row);
        shortener.shorten(test.row, replay.lastTaken(), replay.lastResult());
        if (suite.hasLike(test)) {
            return NONE;
        }
        replay.play(test.row);
        test.settle(replay);
        return suite.keepSpare();
    }

    public boolean drop(int test) {
        return suite.remove(test);
    }

    public int told(int test, int what) {
        MadeTest asked = suite.at(test);
        if (asked == null) {
            return NONE;
        }
        switch (what) {
            case 0: return asked.row.size();
            case 1: return asked.touched ? 1 : 0;
            case 2: return asked.broken ? 1 : 0;
            case 3: return firstDifference(asked) == NONE ? 0 : 1;
            case 4: return asked.met;
            case 5: return replay.meets(asked.row);
            default: return NONE;
        }
    }

    public int row(int test, int k, int what) {
        MadeTest asked = suite.at(test);
        if (asked == null || !isBelow(k, asked.row.size())) {
            return NONE;
        }
        switch (what) {
            case 0: return kindOf(asked.row.callAt(k));
            case 1: return numberOf(asked.row.callAt(k));
            case 2: return asked.row.resultAt(k);
            case 3: return resultNow(asked, k);
            default: return NONE;
        }
    }

    public int differs(int test) {
        MadeTest asked = suite.at(test);
        return asked == null ? NONE : firstDifference(asked);
    }

    public int run() {
        int breaking = 0;
        for (int i = 0; i < suite.size(); i++) {
            MadeTest test = suite.at(i);
            if (test != null && test.touched) {
                test.touched = false;
                test.broken = firstDifference(test) != NONE;
                breaking += test.broken ? 1 : 0;
            }
        }
        return breaking;
    }

    public boolean accept(int test) {
        MadeTest accepted = suite.at(test);
        if (accepted == null) {
            return false;
        }
        replay.play(accepted.row);
        accepted.settle(replay);
        return true;
    }

    public int reached() {
        return replay.meets(log.row);
    }

    public int never() {
        return machine.allBits() & ~replay.meets(log.row);
    }

    public int fewest() {
        return Integer.bitCount(suite.leastHeap(replay));
    }

    public int chosen() {
        return suite.leastHeap(replay);
    }

    public int register(int register) {
        return isBelow(register, REGISTERS) ? valueIn(log.state, register) : NONE;
    }

    public int count(int what) {
        switch (what) {
            case 0: return log.size();
            case 1: return suite.size();
            case 2: return Integer.bitCount(machine.allBits());
            case 3: return suite.touchedOnes();
            case 4: return suite.brokenOnes();
            case 5: return differencesOfLog();
            default: return NONE;
        }
    }

    private int firstDifference(MadeTest test) {
        replay.play(test.row);
        return replay.firstDifference(test.row);
    }

    private int resultNow(MadeTest test, int k) {
        replay.play(test.row);
        return replay.resultAt(k);
    }

    private int differencesOfLog() {
        replay.play(log.row);
        return replay.differences(log.row);
    }

    private static boolean isBelow(int value, int limit) {
        return value >= 0 && value < limit;
    }

    private static int callOf(int kind, int number) {
        return kind * VALUES + number;
    }

    private static int kindOf(int call) {
        return call / VALUES;
    }

    private static int numberOf(int call) {
        return call % VALUES;
    }

    private static int valueIn(int state, int register) {
        return (state >> (register * REGISTER_BITS)) & (VALUES - 1);
    }

    private static int withValue(int state, int register, int value) {
        int shift = register * REGISTER_BITS;
        int others = state & ~((VALUES - 1) << shift);
        return others | ((value & (VALUES - 1)) << shift);
    }

    /** A condition, an effect and a result; it never changes once it is made. */
    private static final class Branch {
        private static final int BELOW = 0;
        private static final int LIKE = 1;
        private static final int WAYS = 3;

        private final int watched;
        private final int how;
        private final int value;
        private final int target;
        private final int timesItself;
        private final int timesNumber;
        private final int added;
        private final int shown;

        Branch(int when, int then, int result) {
            watched = when / 1000;
            how = when / 100 % 10;
            value = when % 100;
            target = then / 10000;
            timesItself = then / 1000 % 10;
            timesNumber = then / 100 % 10;
            added = then % 100;
            shown = result;
        }

        static boolean canBe(int when, int then, int result) {
            return isCondition(when) && isEffect(then) && isBelow(result, REGISTERS);
        }

        private static boolean isCondition(int when) {
            return isBelow(when, REGISTERS * 1000) && when / 100 % 10 < WAYS && when % 100 < VALUES;
        }

        private static boolean isEffect(int then) {
            return isBelow(then, REGISTERS * 10000) && then % 100 < VALUES;
        }

        boolean holds(int state) {
            int seen = valueIn(state, watched);
            if (how == BELOW) {
                return seen < value;
            }
            return how == LIKE ? seen == value : seen > value;
        }

        int stateBehind(int state, int number) {
            int before = valueIn(state, target);
            return withValue(state, target, timesItself * before + timesNumber * number + added);
        }

        int resultIn(int state) {
            return valueIn(state, shown);
        }
    }

    /** The branches as they are now; the state that they work on is held by whoever runs calls. */
    private static final class Machine {
        private final Branch[] branches = new Branch[BRANCHES];
        private final int[] sizes = new int[KINDS];

        boolean hasRoom(int kind) {
            return isBelow(kind, KINDS) && sizes[kind] < PLACES;
        }

        boolean has(int bit) {
            return isBelow(bit, BRANCHES) && branches[bit] != null;
        }

        int add(int kind, Branch branch) {
            if (!hasRoom(kind)) {
                return NONE;
            }
            put(kind * PLACES + sizes[kind], branch);
            sizes[kind]++;
            return sizes[kind];
        }

        void put(int bit, Branch branch) {
            if (isBelow(bit, BRANCHES)) {
                branches[bit] = branch;
            }
        }

        int allBits() {
            int bits = 0;
            for (int bit = 0; bit < BRANCHES; bit++) {
                if (branches[bit] != null) {
                    bits |= 1 << bit;
                }
            }
            return bits;
        }

        /** The bit of the branch that a call takes in a state, or NONE. */
        int takenBy(int call, int state) {
            int kind = kindOf(call);
            if (!isBelow(kind, KINDS)) {
                return NONE;
            }
            int first = kind * PLACES;
            for (int bit = first; bit < first + sizes[kind]; bit++) {
                if (has(bit) && branches[bit].holds(state)) {
                    return bit;
                }
            }
            return NONE;
        }

        int stateBehind(int taken, int state, int number) {
            return has(taken) ? branches[taken].stateBehind(state, number) : state;
        }

        int resultOf(int taken, int state) {
            return has(taken) ? branches[taken].resultIn(state) : NONE;
        }
    }

    /** Calls one behind the other, each with a result: as it was (the log) or as asked (a test). */
    private static final class Row {
        private final int[] calls = new int[LOG_LIMIT];
        private final int[] results = new int[LOG_LIMIT];
        private int size = 0;

        int size() {
            return size;
        }

        int callAt(int k) {
            return isBelow(k, size) ? calls[k] : NONE;
        }

        int resultAt(int k) {
            return isBelow(k, size) ? results[k] : NONE;
        }

        void add(int call, int result) {
            if (size < LOG_LIMIT) {
                calls[size] = call;
                results[size] = result;
                size++;
            }
        }

        void move(int from, int to) {
            if (isBelow(from, size) && isBelow(to, size)) {
                calls[to] = calls[from];
            }
        }

        void cutTo(int length) {
            if (isBelow(length, size)) {
                size = length;
            }
        }

        void copyStart(Row other, int length) {
            size = 0;
            for (int k = 0; k < length && k < other.size; k++) {
                add(other.calls[k], other.results[k]);
            }
        }

        void takeResults(Replay replay) {
            for (int k = 0; k < size; k++) {
                results[k] = replay.resultAt(k);
            }
        }

        boolean hasCallOf(int kind) {
            for (int k = 0; k < size; k++) {
                if (kindOf(calls[k]) == kind) {
                    return true;
                }
            }
            return false;
        }

        boolean hasSameCalls(Row other) {
            if (size != other.size) {
                return false;
            }
            for (int k = 0; k < size; k++) {
                if (calls[k] != other.calls[k]) {
                    return false;
                }
            }
            return true;
        }
    }

    /** The calls as they went, and the state behind them, which later changes do not touch. */
    private static final class Log {
        private final Row row = new Row();
        private final int[] taken = new int[LOG_LIMIT];
        private int state = FIRST_STATE;

        int size() {
            return row.size();
        }

        /** The result of the call; NONE, and nothing changes, if the log is full. */
        int add(int call, Machine machine) {
            int place = row.size();
            if (place >= LOG_LIMIT) {
                return NONE;
            }
            taken[place] = machine.takenBy(call, state);
            state = machine.stateBehind(taken[place], state, numberOf(call));
            row.add(call, machine.resultOf(taken[place], state));
            return row.resultAt(place);
        }

        int clear() {
            int before = row.size();
            row.cutTo(0);
            state = FIRST_STATE;
            return before;
        }

        int tell(int i, int what) {
            if (!isBelow(i, row.size())) {
                return NONE;
            }
            switch (what) {
                case 0: return kindOf(row.callAt(i));
                case 1: return numberOf(row.callAt(i));
                case 2: return row.resultAt(i);
                case 3: return taken[i];
                default: return NONE;
            }
        }
    }

    /** What a row gives and meets, run from the first state on by the machine as it is now. */
    private static final class Replay {
        private final Machine machine;
        private final int[] results = new int[LOG_LIMIT];
        private int size = 0;
        private int met = 0;
        private int lastTaken = NONE;

        Replay(Machine machine) {
            this.machine = machine;
        }

        void play(Row row) {
            int state = FIRST_STATE;
            size = row.size();
            met = 0;
            lastTaken = NONE;
            for (int k = 0; k < size && k < LOG_LIMIT; k++) {
                int call = row.callAt(k);
                lastTaken = machine.takenBy(call, state);
                state = machine.stateBehind(lastTaken, state, numberOf(call));
                results[k] = machine.resultOf(lastTaken, state);
                met |= lastTaken == NONE ? 0 : 1 << lastTaken;
            }
        }

        int meets(Row row) {
            play(row);
            return met;
        }

        int met() {
            return met;
        }

        int lastTaken() {
            return lastTaken;
        }

        int lastResult() {
            return resultAt(size - 1);
        }

        int resultAt(int k) {
            return isBelow(k, size) && k < LOG_LIMIT ? results[k] : NONE;
        }

        int firstDifference(Row row) {
            for (int k = 0; k < size; k++) {
                if (resultAt(k) != row.resultAt(k)) {
                    return k;
                }
            }
            return NONE;
        }

        int differences(Row row) {
            int different = 0;
            for (int k = 0; k < size; k++) {
                different += resultAt(k) == row.resultAt(k) ? 0 : 1;
            }
            return different;
        }
    }

    /** Leaves out of a row what its last call can do without. */
    private static final class Shortener {
        private final Machine machine;
        private int wantedTaken = NONE;
        private int wantedResult = NONE;

        Shortener(Machine machine) {
            this.machine = machine;
        }

        void shorten(Row row, int taken, int result) {
            wantedTaken = taken;
            wantedResult = result;
            boolean again = true;
            // Each pass but the last leaves out a call at least.
            for (int pass = 0; again && pass <= LOG_LIMIT; pass++) {
                again = leaveOut(row);
            }
        }

        /** One pass from the first call to the last but one; whether any call was left out. */
        private boolean leaveOut(Row row) {
            int last = row.size() - 1;
            int kept = 0;
            int state = FIRST_STATE;
            for (int k = 0; k < last; k++) {
                if (!endsAlike(row, k + 1, state)) {
                    int call = row.callAt(k);
                    state = machine.stateBehind(machine.takenBy(call, state), state, numberOf(call));
                    // Kept calls move to the front, where the pass looks no more.
                    row.move(k, kept);
                    kept++;
                }
            }
            row.move(last, kept);
            row.cutTo(kept + 1);
            return kept < last;
        }

        private boolean endsAlike(Row row, int from, int start) {
            int state = start;
            int taken = NONE;
            for (int k = from; k < row.size(); k++) {
                int call = row.callAt(k);
                taken = machine.takenBy(call, state);
                state = machine.stateBehind(taken, state, numberOf(call));
            }
            return taken == wantedTaken && machine.resultOf(taken, state) == wantedResult;
        }
    }

    /** A test: its row with the results that it asks for, and what is known of it. */
    private static final class MadeTest {
        private final Row row = new Row();
        private int met = 0;
        private boolean touched = false;
        private boolean broken = false;

        /** It asks for what the replay of its row gave, and has met what that met. */
        void settle(Replay replay) {
            row.takeResults(replay);
            met = replay.met();
            touched = false;
            broken = false;
        }
    }

    /** The tests in their order; the places behind them hold tests that are used again. */
    private static final class Suite {
        private final MadeTest[] tests = new MadeTest[TEST_LIMIT];
        private final int[] meets = new int[TEST_LIMIT];
        private int size = 0;

        Suite() {
            for (int i = 0; i < TEST_LIMIT; i++) {
                tests[i] = new MadeTest();
            }
        }

        int size() {
            return size;
        }

        MadeTest at(int i) {
            return isBelow(i, size) ? tests[i] : null;
        }

        /** The test behind the last one, to be filled and then kept; null if there is no room. */
        MadeTest spare() {
            return size < TEST_LIMIT ? tests[size] : null;
        }

        int keepSpare() {
            if (size >= TEST_LIMIT) {
                return NONE;
            }
            size++;
            return size - 1;
        }

        boolean remove(int i) {
            if (!isBelow(i, size)) {
                return false;
            }
            MadeTest gone = tests[i];
            for (int k = i; k + 1 < size; k++) {
                tests[k] = tests[k + 1];
            }
            size--;
            tests[size] = gone;
            return true;
        }

        boolean hasLike(MadeTest other) {
            for (int i = 0; i < size; i++) {
                if (tests[i].row.hasSameCalls(other.row)) {
                    return true;
                }
            }
            return false;
        }

        void touchThoseThatMet(int bit) {
            for (int i = 0; i < size; i++) {
                tests[i].touched |= ((tests[i].met >> bit) & 1) == 1;
            }
        }

        /** A test that met a branch of a kind has a call of it, so its calls alone decide. */
        void touchCallersOf(int kind) {
            for (int i = 0; i < size; i++) {
                tests[i].touched |= tests[i].row.hasCallOf(kind);
            }
        }

        int touchedOnes() {
            int many = 0;
            for (int i = 0; i < size; i++) {
                many += tests[i].touched ? 1 : 0;
            }
            return many;
        }

        int brokenOnes() {
            int many = 0;
            for (int i = 0; i < size; i++) {
                many += tests[i].broken ? 1 : 0;
            }
            return many;
        }

        /** The smallest heap that meets all that the tests meet now; among such, the least number. */
        int leastHeap(Replay replay) {
            for (int i = 0; i < size; i++) {
                meets[i] = replay.meets(tests[i].row);
            }
            int best = (1 << size) - 1;
            int wanted = metByHeap(best);
            for (int heap = 0; heap < 1 << size; heap++) {
                if (Integer.bitCount(heap) < Integer.bitCount(best) && metByHeap(heap) == wanted) {
                    best = heap;
                }
            }
            return best;
        }

        private int metByHeap(int heap) {
            int met = 0;
            for (int i = 0; i < size; i++) {
                met |= ((heap >> i) & 1) == 1 ? meets[i] : 0;
            }
            return met;
        }
    }
}
