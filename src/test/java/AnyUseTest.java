import java.util.Random;

/**
 * No call may throw or fail to end, for any arguments in any state (LANGUAGE.md, 7), behind the
 * 512th call too, where the answers are free.
 */
public final class AnyUseTest {
    private static final int OBJECTS = 40;
    private static final int CALLS = 3000;
    private static final int METHODS = 18;

    private final Random random;
    private final TestsFromUse x = new TestsFromUse();

    private AnyUseTest(long seed) {
        random = new Random(seed);
    }

    public static void main(String[] args) {
        for (int seed = 0; seed < OBJECTS; seed++) {
            AnyUseTest use = new AnyUseTest(seed);
            for (int i = 0; i < CALLS; i++) {
                use.callAny();
            }
        }
        Check.end();
    }

    /** Mostly numbers that are of use, else the ends of int, powers of two and whatever comes. */
    private int any(int limit) {
        switch (random.nextInt(12)) {
            case 0: return random.nextInt();
            case 1: return Integer.MIN_VALUE + random.nextInt(3);
            case 2: return Integer.MAX_VALUE - random.nextInt(3);
            case 3: return (1 << random.nextInt(32)) - random.nextInt(3);
            case 4: return limit - random.nextInt(3) + 1;
            default: return random.nextInt(limit);
        }
    }

    private int when() {
        return random.nextInt(8) == 0 ? any(4000) : random.nextInt(4) * 1000 + random.nextInt(3) * 100 + random.nextInt(16);
    }

    private int then() {
        return random.nextInt(8) == 0 ? any(40000) : random.nextInt(400) * 100 + random.nextInt(16);
    }

    private void callAny() {
        int way = random.nextInt(3 * METHODS);
        switch (way) {
            case 0: x.branch(any(6), when(), then(), any(4)); break;
            case 1: x.change(any(24), when(), then(), any(4)); break;
            case 2: x.logged(any(200), any(4)); break;
            case 3: x.drop(any(12)); break;
            case 4: x.told(any(12), any(6)); break;
            case 5: x.row(any(12), any(200), any(4)); break;
            case 6: x.differs(any(12)); break;
            case 7: x.run(); break;
            case 8: x.accept(any(12)); break;
            case 9: x.reached(); break;
            case 10: x.never(); break;
            case 11: x.fewest(); break;
            case 12: x.chosen(); break;
            case 13: x.register(any(4)); break;
            case 14: x.count(any(6)); break;
            case 15: freshNowAndThen(); break;
            case 16: case 17: case 18: x.make(any(200)); break;
            default: x.call(any(6), any(16)); break;
        }
    }

    /** Seldom, so that the log gets full. */
    private void freshNowAndThen() {
        if (random.nextInt(8) == 0) {
            x.fresh();
        }
    }
}
