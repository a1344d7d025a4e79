import java.util.ArrayList;
import java.util.List;

/** The document again, written as plainly as can be and with no thought of speed. */
final class Oracle {
    private static final int NONE = -1;

    private record Branch(int when, int then, int result) {
        static boolean canBe(int when, int then, int result) {
            return when >= 0 && when / 1000 <= 3 && when / 100 % 10 <= 2 && when % 100 <= 15
                && then >= 0 && then / 10000 <= 3 && then % 100 <= 15
                && result >= 0 && result <= 3;
        }
    }

    private record Call(int kind, int number) {
    }

    /** What came of a call: its result and the bit of the branch that it took. */
    private record Came(int result, int bit) {
    }

    private static final class Test {
        List<Call> row;
        List<Integer> asks = new ArrayList<>();
        int met;
        boolean touched;
        boolean broken;
    }

    private final List<List<Branch>> kinds = new ArrayList<>();
    private final List<Call> log = new ArrayList<>();
    private final List<Came> logCame = new ArrayList<>();
    private final List<Test> tests = new ArrayList<>();
    private int[] registers = new int[4];

    Oracle() {
        for (int kind = 0; kind < 6; kind++) {
            kinds.add(new ArrayList<>());
        }
    }

    private Came step(int[] r, Call call) {
        List<Branch> branches = kinds.get(call.kind());
        for (int b = 0; b < branches.size(); b++) {
            Branch branch = branches.get(b);
            int seen = r[branch.when() / 1000];
            int value = branch.when() % 100;
            int how = branch.when() / 100 % 10;
            if (how == 0 && seen < value || how == 1 && seen == value || how == 2 && seen > value) {
                int to = branch.then() / 10000;
                int m = branch.then() / 1000 % 10;
                int k = branch.then() / 100 % 10;
                r[to] = (m * r[to] + k * call.number() + branch.then() % 100) % 16;
                return new Came(r[branch.result()], 4 * call.kind() + b);
            }
        }
        return new Came(NONE, NONE);
    }

    private List<Came> play(List<Call> row) {
        int[] r = new int[4];
        List<Came> came = new ArrayList<>();
        for (Call call : row) {
            came.add(step(r, call));
        }
        return came;
    }

    private int meets(List<Call> row) {
        int bits = 0;
        for (Came came : play(row)) {
            if (came.bit() != NONE) {
                bits |= 1 << came.bit();
            }
        }
        return bits;
    }

    private static List<Integer> results(List<Came> came) {
        List<Integer> results = new ArrayList<>();
        for (Came one : came) {
            results.add(one.result());
        }
        return results;
    }

    private boolean breaks(Test test) {
        return !results(play(test.row)).equals(test.asks);
    }

    private boolean isTest(int test) {
        return test >= 0 && test < tests.size();
    }

    int branch(int kind, int when, int then, int result) {
        if (kind < 0 || kind > 5 || kinds.get(kind).size() == 4 || !Branch.canBe(when, then, result)) {
            return NONE;
        }
        kinds.get(kind).add(new Branch(when, then, result));
        for (Test test : tests) {
            boolean met = (test.met >> (4 * kind) & 15) != 0;
            boolean calls = test.row.stream().anyMatch(call -> call.kind() == kind);
            test.touched = test.touched || met || calls;
        }
        return kinds.get(kind).size();
    }

    boolean change(int which, int when, int then, int result) {
        if (which < 0 || which > 23 || kinds.get(which / 4).size() <= which % 4
            || !Branch.canBe(when, then, result)) {
            return false;
        }
        kinds.get(which / 4).set(which % 4, new Branch(when, then, result));
        for (Test test : tests) {
            test.touched = test.touched || (test.met >> which & 1) == 1;
        }
        return true;
    }

    int call(int kind, int number) {
        if (kind < 0 || kind > 5 || number < 0 || number > 15 || log.size() == 200) {
            return NONE;
        }
        Call call = new Call(kind, number);
        Came came = step(registers, call);
        log.add(call);
        logCame.add(came);
        return came.result();
    }

    int fresh() {
        int many = log.size();
        log.clear();
        logCame.clear();
        registers = new int[4];
        return many;
    }

    int logged(int i, int what) {
        if (i < 0 || i >= log.size()) {
            return NONE;
        }
        return switch (what) {
            case 0 -> log.get(i).kind();
            case 1 -> log.get(i).number();
            case 2 -> logCame.get(i).result();
            case 3 -> logCame.get(i).bit();
            default -> NONE;
        };
    }

    private Came end(List<Call> row) {
        List<Came> came = play(row);
        return came.get(came.size() - 1);
    }

    private List<Call> shortened(int i) {
        List<Call> row = new ArrayList<>(log.subList(0, i + 1));
        Came wanted = end(row);
        boolean again = true;
        while (again) {
            again = false;
            int at = 0;
            while (at < row.size() - 1) {
                List<Call> without = new ArrayList<>(row);
                without.remove(at);
                if (end(without).equals(wanted)) {
                    row = without;
                    again = true;
                } else {
                    at++;
                }
            }
        }
        return row;
    }

    int make(int i) {
        if (i < 0 || i >= log.size() || tests.size() == 12) {
            return NONE;
        }
        Test made = new Test();
        made.row = shortened(i);
        for (Test test : tests) {
            if (test.row.equals(made.row)) {
                return NONE;
            }
        }
        tests.add(made);
        accept(tests.size() - 1);
        return tests.size() - 1;
    }

    boolean drop(int test) {
        if (!isTest(test)) {
            return false;
        }
        tests.remove(test);
        return true;
    }

    int told(int number, int what) {
        if (!isTest(number)) {
            return NONE;
        }
        Test test = tests.get(number);
        return switch (what) {
            case 0 -> test.row.size();
            case 1 -> test.touched ? 1 : 0;
            case 2 -> test.broken ? 1 : 0;
            case 3 -> breaks(test) ? 1 : 0;
            case 4 -> test.met;
            case 5 -> meets(test.row);
            default -> NONE;
        };
    }

    int row(int number, int k, int what) {
        if (!isTest(number) || k < 0 || k >= tests.get(number).row.size()) {
            return NONE;
        }
        Test test = tests.get(number);
        return switch (what) {
            case 0 -> test.row.get(k).kind();
            case 1 -> test.row.get(k).number();
            case 2 -> test.asks.get(k);
            case 3 -> play(test.row).get(k).result();
            default -> NONE;
        };
    }

    int differs(int number) {
        if (!isTest(number)) {
            return NONE;
        }
        Test test = tests.get(number);
        List<Integer> now = results(play(test.row));
        for (int k = 0; k < now.size(); k++) {
            if (!now.get(k).equals(test.asks.get(k))) {
                return k;
            }
        }
        return NONE;
    }

    int run() {
        int many = 0;
        for (Test test : tests) {
            if (test.touched) {
                test.broken = breaks(test);
                many += test.broken ? 1 : 0;
                test.touched = false;
            }
        }
        return many;
    }

    boolean accept(int number) {
        if (!isTest(number)) {
            return false;
        }
        Test test = tests.get(number);
        test.asks = results(play(test.row));
        test.met = meets(test.row);
        test.touched = false;
        test.broken = false;
        return true;
    }

    int reached() {
        return meets(log);
    }

    private int allBits() {
        int bits = 0;
        for (int kind = 0; kind < 6; kind++) {
            for (int b = 0; b < kinds.get(kind).size(); b++) {
                bits |= 1 << (4 * kind + b);
            }
        }
        return bits;
    }

    int never() {
        return allBits() & ~reached();
    }

    int fewest() {
        return Integer.bitCount(chosen());
    }

    int chosen() {
        int[] meets = new int[tests.size()];
        int all = 0;
        for (int i = 0; i < meets.length; i++) {
            meets[i] = meets(tests.get(i).row);
            all |= meets[i];
        }
        for (int size = 0; size <= meets.length; size++) {
            for (int heap = 0; heap < 1 << meets.length; heap++) {
                int met = 0;
                for (int i = 0; i < meets.length; i++) {
                    met |= (heap >> i & 1) * meets[i];
                }
                if (Integer.bitCount(heap) == size && met == all) {
                    return heap;
                }
            }
        }
        throw new IllegalStateException("all tests together meet what they meet");
    }

    int register(int register) {
        return register < 0 || register > 3 ? NONE : registers[register];
    }

    int count(int what) {
        return switch (what) {
            case 0 -> log.size();
            case 1 -> tests.size();
            case 2 -> Integer.bitCount(allBits());
            case 3 -> (int) tests.stream().filter(test -> test.touched).count();
            case 4 -> (int) tests.stream().filter(test -> test.broken).count();
            case 5 -> differences();
            default -> NONE;
        };
    }

    private int differences() {
        List<Came> now = play(log);
        int many = 0;
        for (int i = 0; i < log.size(); i++) {
            many += now.get(i).result() == logCame.get(i).result() ? 0 : 1;
        }
        return many;
    }
}
