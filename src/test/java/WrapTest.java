/** Wrap-around: an effect gives "its rest by 16", whatever its parts are. */
public final class WrapTest {
    private static final int NONE = TestsFromUse.NONE;
    private static final int[] SOME = {0, 1, 7, 8, 15};

    public static void main(String[] args) {
        everyEffect();
        justBelowAndAtSixteen();
        theGreatestEffect();
        aRegisterCountsRound();
        conditionsSeeTheRest();
        theOthersStay();
        inTestsToo();
        Check.end();
    }

    /** Register 0 gets a value by kind 0, then the effect by kind 1. */
    private static void everyEffect() {
        for (int m = 0; m <= 9; m++) {
            for (int k = 0; k <= 9; k++) {
                for (int a = 0; a <= 15; a++) {
                    effect(m, k, a);
                }
            }
        }
    }

    private static void effect(int m, int k, int a) {
        TestsFromUse x = new TestsFromUse();
        x.branch(0, 3100, 100, 0);
        x.branch(1, 3100, m * 1000 + k * 100 + a, 0);
        for (int before : SOME) {
            for (int number : SOME) {
                x.call(0, before);
                String name = m + " * " + before + " + " + k + " * " + number + " + " + a;
                Check.due(name, x.call(1, number), (m * before + k * number + a) % 16);
            }
        }
    }

    /** 15 stays 15, 16 is 0, 17 is 1: by the register itself, by the number, and by what is added. */
    private static void justBelowAndAtSixteen() {
        TestsFromUse x = new TestsFromUse();
        x.branch(0, 3100, 100, 0);
        x.branch(1, 3100, 1001, 0);
        x.branch(2, 3100, 2000, 0);
        x.branch(3, 3100, 1100, 0);
        x.call(0, 14);
        Check.due("14 + 1", x.call(1, 0), 15);
        Check.due("15 + 1", x.call(1, 0), 0);
        Check.due("0 + 1", x.call(1, 0), 1);
        x.call(0, 7);
        Check.due("2 * 7", x.call(2, 0), 14);
        x.call(0, 8);
        Check.due("2 * 8", x.call(2, 0), 0);
        x.call(0, 9);
        Check.due("2 * 9", x.call(2, 0), 2);
        x.call(0, 15);
        Check.due("15 + a number of 0", x.call(3, 0), 15);
        Check.due("15 + a number of 1", x.call(3, 1), 0);
        x.call(0, 15);
        Check.due("15 + a number of 15", x.call(3, 15), 14);
    }

    /** 9 * 15 + 9 * 15 + 15 is 285: its rest is 13. */
    private static void theGreatestEffect() {
        for (int register = 0; register <= 3; register++) {
            int other = (register + 1) % 4;
            TestsFromUse x = new TestsFromUse();
            x.branch(0, other * 1000 + 100, register * 10000 + 15, register);
            x.branch(1, other * 1000 + 100, register * 10000 + 9915, register);
            Check.due("15", x.call(0, 0), 15);
            Check.due("285", x.call(1, 15), 13);
            Check.due("in its register", x.register(register), 13);
            Check.due("in the log", x.logged(1, 2), 13);
        }
    }

    private static void aRegisterCountsRound() {
        TestsFromUse x = new TestsFromUse();
        x.branch(0, 3100, 1001, 0);
        for (int i = 1; i <= 50; i++) {
            Check.due("count " + i, x.call(0, 0), i % 16);
            Check.due("register at " + i, x.register(0), i % 16);
        }
    }

    /** A condition behind a wrap-around looks at the rest, not at what it was the rest of. */
    private static void conditionsSeeTheRest() {
        TestsFromUse x = new TestsFromUse();
        x.branch(0, 3100, 1015, 0);
        x.branch(1, 214, 1000, 0);
        x.branch(1, 1, 1000, 0);
        x.branch(1, 114, 1000, 0);
        x.call(0, 0);
        x.call(1, 0);
        Check.due("15 is above 14", x.logged(1, 3), 4);
        x.call(0, 0);
        x.call(1, 0);
        Check.due("30 is 14", x.logged(3, 3), 6);
        for (int i = 0; i < 14; i++) {
            x.call(0, 0);
        }
        x.call(1, 0);
        Check.due("240 is 0, below 1", x.logged(18, 3), 5);
    }

    /** A wrap-around of one register leaves the registers beside it as they are. */
    private static void theOthersStay() {
        for (int register = 0; register <= 3; register++) {
            TestsFromUse x = new TestsFromUse();
            for (int each = 0; each <= 3; each++) {
                x.branch(each, each * 1000 + 100, each * 10000 + 4 + each, each);
                x.call(each, 0);
            }
            x.branch(4, register * 1000 + 200, register * 10000 + 9915, register);
            int due = (9 * (4 + register) + 9 * 15 + 15) % 16;
            Check.due("wrap of register " + register, x.call(4, 15), due);
            for (int each = 0; each <= 3; each++) {
                Check.due("register " + each + " behind a wrap of " + register,
                    x.register(each), each == register ? due : 4 + each);
            }
        }
    }

    /** A row is run with the same rest: what it asks for, what it gives NOW, and what it needs. */
    private static void inTestsToo() {
        TestsFromUse x = new TestsFromUse();
        x.branch(0, 3100, 1008, 0);
        x.branch(1, 108, 10001, 1);
        x.call(0, 0);
        x.call(0, 0);
        x.call(0, 0);
        x.call(1, 0);
        Check.due("make of 16 as 0", x.make(1), 0);
        Check.due("it needs call 0", x.told(0, 0), 2);
        Check.due("it asks for 0", x.row(0, 1, 2), 0);
        Check.due("make of 24 as 8", x.make(2), 1);
        // One call alone gives 8 too, but with one left out the other two give 0.
        Check.due("it needs all three", x.told(1, 0), 3);
        Check.due("make of what needs 8", x.make(3), 2);
        Check.due("it needs all three too", x.told(2, 0), 4);
        x.change(0, 3100, 1015, 0);
        Check.due("it gives 14 NOW", x.row(0, 1, 3), 14);
        Check.due("what needs 8 gives nothing NOW", x.row(2, 3, 3), NONE);
    }
}
