import java.util.Random;

/** Random runs of 512 calls, the same each time, answered by the program and by the oracle. */
public final class OracleTest {
    /** The document promises nothing of an object behind this many calls. */
    private static final int CALLS = 512;

    /** A step asks for all of a thing at once, in so many calls at most. */
    private static final int CALLS_OF_A_STEP = 8;

    /** How often each of the 18 methods is called, in some ways of use. */
    private static final int[][] WAYS = {
        {6, 4, 30, 1, 3, 12, 3, 6, 6, 3, 4, 3, 2, 2, 2, 2, 2, 4},
        {12, 0, 80, 0, 2, 6, 1, 2, 2, 1, 1, 1, 1, 1, 1, 1, 1, 2},
        {10, 20, 20, 0, 2, 16, 6, 8, 8, 6, 8, 4, 2, 2, 4, 4, 1, 6},
        {3, 3, 20, 3, 2, 20, 8, 8, 4, 2, 3, 2, 2, 2, 8, 8, 1, 4},
    };

    private final Random random;
    private final TestsFromUse program = new TestsFromUse();
    private final Oracle oracle = new Oracle();
    private final boolean steady;
    private int calls = 0;

    private OracleTest(long seed) {
        random = new Random(seed);
        steady = random.nextBoolean();
    }

    public static void main(String[] args) {
        int runs = args.length == 0 ? 400 : Integer.parseInt(args[0]);
        for (int seed = 0; seed < runs; seed++) {
            new OracleTest(seed).compare(WAYS[seed % WAYS.length], "run " + seed + ": ");
        }
        Check.end();
    }

    private void compare(int[] way, String name) {
        for (int kind = 0; kind < 6; kind++) {
            compareCall(0, name);
        }
        while (calls + CALLS_OF_A_STEP <= CALLS) {
            compareCall(method(way), name);
        }
    }

    private void due(String call, int got, int want) {
        calls++;
        Check.due(call, got, want);
    }

    private void due(String call, boolean got, boolean want) {
        due(call, got ? 1 : 0, want ? 1 : 0);
    }

    private int method(int[] way) {
        int all = 0;
        for (int weight : way) {
            all += weight;
        }
        int left = random.nextInt(all);
        int method = 0;
        while (left >= way[method]) {
            left -= way[method];
            method++;
        }
        return method;
    }

    /** A number below the limit; now and then one outside. */
    private int below(int limit) {
        int way = random.nextInt(40);
        if (way == 0) {
            return limit;
        }
        if (way == 1) {
            return -1;
        }
        if (way == 2) {
            return random.nextInt();
        }
        return random.nextInt(Math.max(1, limit));
    }

    private int when() {
        if (random.nextInt(30) == 0) {
            return random.nextInt(5000) - 100;
        }
        return random.nextInt(4) * 1000 + random.nextInt(3) * 100 + random.nextInt(16);
    }

    /** In a steady run registers keep or add, so that tests need long rows. */
    private int then() {
        if (random.nextInt(30) == 0) {
            return random.nextInt(50000) - 100;
        }
        int m = steady ? 1 : random.nextInt(10);
        int k = steady ? random.nextInt(2) : random.nextInt(10);
        return random.nextInt(4) * 10000 + m * 1000 + k * 100 + random.nextInt(16);
    }

    private void compareCall(int method, String name) {
        int test = below(oracle.count(1));
        int call = below(oracle.count(0));
        switch (method) {
            case 0 -> {
                int kind = below(6);
                int when = when();
                int then = then();
                int result = below(4);
                due(name + "branch", program.branch(kind, when, then, result),
                    oracle.branch(kind, when, then, result));
            }
            case 1 -> {
                int which = below(24);
                int when = when();
                int then = then();
                int result = below(4);
                due(name + "change", program.change(which, when, then, result),
                    oracle.change(which, when, then, result));
            }
            case 2 -> {
                int kind = below(6);
                int number = below(16);
                due(name + "call", program.call(kind, number), oracle.call(kind, number));
            }
            case 3 -> {
                if (random.nextInt(4) == 0) {
                    due(name + "fresh", program.fresh(), oracle.fresh());
                }
            }
            case 4 -> {
                for (int what = -1; what <= 4; what++) {
                    due(name + "logged", program.logged(call, what), oracle.logged(call, what));
                }
            }
            case 5 -> due(name + "make", program.make(call), oracle.make(call));
            case 6 -> due(name + "drop", program.drop(test), oracle.drop(test));
            case 7 -> {
                for (int what = -1; what <= 6; what++) {
                    due(name + "told", program.told(test, what), oracle.told(test, what));
                }
            }
            case 8 -> {
                int k = below(Math.max(0, oracle.told(test, 0)));
                for (int what = -1; what <= 4; what++) {
                    due(name + "row", program.row(test, k, what), oracle.row(test, k, what));
                }
            }
            case 9 -> due(name + "differs", program.differs(test), oracle.differs(test));
            case 10 -> due(name + "run", program.run(), oracle.run());
            case 11 -> due(name + "accept", program.accept(test), oracle.accept(test));
            case 12 -> due(name + "reached", program.reached(), oracle.reached());
            case 13 -> due(name + "never", program.never(), oracle.never());
            case 14 -> due(name + "fewest", program.fewest(), oracle.fewest());
            case 15 -> due(name + "chosen", program.chosen(), oracle.chosen());
            case 16 -> {
                int register = below(4);
                due(name + "register", program.register(register), oracle.register(register));
            }
            default -> {
                int what = below(6);
                due(name + "count", program.count(what), oracle.count(what));
            }
        }
    }
}
