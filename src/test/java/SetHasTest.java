/** Promises 10 and 11: set and has. */
public final class SetHasTest {
    private static final long B = 1L << 61;

    public static void main(String[] args) {
        theThreeNumbers();
        wrongNumbers();
        whereNothingCame();
        membership();
        Bench.end();
    }

    private static StrideWatch looked() {
        StrideWatch watch = Bench.fed("90 C3 90");
        Bench.give(watch, "0:5 9 2", "3:-7", "23:" + -B + " " + B + " " + B);
        watch.look();
        return watch;
    }

    private static void theThreeNumbers() {
        StrideWatch watch = looked();
        Bench.due("l", watch.set(1, 0, 0), 5);
        Bench.due("u", watch.set(1, 0, 1), 9);
        Bench.due("s", watch.set(1, 0, 2), 2);
        Bench.due("l of one number", watch.set(1, 3, 0), -7);
        Bench.due("u of one number", watch.set(1, 3, 1), -7);
        Bench.due("s of one number", watch.set(1, 3, 2), 0);
        Bench.due("l of any", watch.set(1, 1, 0), 0);
        Bench.due("u of any", watch.set(1, 1, 1), 0);
        Bench.due("s of any", watch.set(1, 1, 2), -1);
        Bench.due("l of the last location", watch.set(1, 23, 0), -B);
        Bench.due("u of the last location", watch.set(1, 23, 1), B);
        Bench.due("s of the last location", watch.set(1, 23, 2), B);
    }

    private static void wrongNumbers() {
        StrideWatch watch = looked();
        for (int location : new int[] {-1, 24, Integer.MIN_VALUE, Integer.MAX_VALUE}) {
            Bench.argument("set of location " + location, () -> watch.set(0, location, 0));
            Bench.argument("set of location " + location + " where nothing came", () -> watch.set(2, location, 0));
            Bench.argument("has of location " + location, () -> watch.has(0, location, 0));
            Bench.argument("has of location " + location + " where nothing came", () -> watch.has(2, location, 0));
        }
        for (int what : new int[] {-1, 3, Integer.MIN_VALUE, Integer.MAX_VALUE}) {
            Bench.argument("set of " + what, () -> watch.set(0, 0, what));
            Bench.argument("set of " + what + " where nothing came", () -> watch.set(-1, 0, what));
        }
        Bench.due("set behind wrong ones", watch.set(0, 0, 0), 5);
    }

    private static void whereNothingCame() {
        StrideWatch watch = looked();
        for (int address : new int[] {2, 3, -1, 199, 200, Integer.MIN_VALUE, Integer.MAX_VALUE}) {
            Bench.state("set at " + address, () -> watch.set(address, 0, 0));
            Bench.due("has at " + address, watch.has(address, 0, 5), false);
            Bench.due("has of any at " + address, watch.has(address, 1, 5), false);
        }
    }

    private static void membership() {
        StrideWatch watch = looked();
        for (long number = 3; number <= 11; number++) {
            boolean want = number == 5 || number == 7 || number == 9;
            Bench.due("5 9 2 has " + number, watch.has(1, 0, number), want);
        }
        Bench.due("-7 has -7", watch.has(1, 3, -7), true);
        Bench.due("-7 has 7", watch.has(1, 3, 7), false);
        Bench.due("-7 has -8", watch.has(1, 3, -8), false);
        for (long number : new long[] {Long.MIN_VALUE, -1, 0, 1, Long.MAX_VALUE}) {
            Bench.due("any has " + number, watch.has(1, 1, number), true);
            Bench.due("5 9 2 has " + number, watch.has(1, 0, number), false);
        }
        for (long number : new long[] {-B, 0, B}) {
            Bench.due("the widest set has " + number, watch.has(1, 23, number), true);
            Bench.due("the widest set has one more than " + number, watch.has(1, 23, number + 1), false);
            Bench.due("the widest set has one less than " + number, watch.has(1, 23, number - 1), false);
        }
        Bench.due("the widest set has 2 B", watch.has(1, 23, 2 * B), false);
        Bench.due("the widest set has -4 B", watch.has(1, 23, -4 * B), false);
    }
}
