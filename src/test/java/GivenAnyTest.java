/** Promises 4 and 5: given and any. */
public final class GivenAnyTest {
    private static final long B = 1L << 61;

    public static void main(String[] args) {
        setsThatAreTaken();
        triplesThatAreNoSets();
        locationsThatAreNone();
        whatWasLookedAtStays();
        anyTakesASetAway();
        Bench.end();
    }

    private static StrideWatch nop() {
        return Bench.fed("90");
    }

    private static void setsThatAreTaken() {
        String[] sets = {"0", "-7", "5 9 2", "-8 8 4", "0 1 1", -B + " " + B + " 1", "-" + B, "" + B,
            -B + " " + B + " " + 2 * B};
        for (int location = 0; location < 24; location++) {
            for (String set : sets) {
                StrideWatch watch = nop();
                Bench.give(watch, location + ":" + set);
                watch.look();
                Bench.due("given " + set + " to " + location, Bench.setAt(watch, 0, location), set);
                Bench.due("beside it", Bench.setAt(watch, 0, (location + 1) % 24), "any");
            }
        }
    }

    private static void triplesThatAreNoSets() {
        long[][] wrong = {{1, 2, 3}, {2, 1, 1}, {2, 1, -1}, {5, 5, 1}, {5, 5, -1}, {1, 2, 0}, {0, 4, -2}, {0, 4, 3},
            {0, B + 1, 1}, {-B - 1, 0, 1}, {B + 1, B + 1, 0}, {-B - 1, -B - 1, 0}, {0, 0, -1}, {0, 10, 20},
            {Long.MIN_VALUE, Long.MIN_VALUE, 0}, {Long.MIN_VALUE, Long.MAX_VALUE, 1}, {0, Long.MIN_VALUE, 1},
            {Long.MAX_VALUE, Long.MAX_VALUE, 0}, {0, 1, Long.MIN_VALUE}, {0, 1, Long.MAX_VALUE}};
        StrideWatch watch = nop();
        watch.given(0, 3, 3, 0);
        for (long[] triple : wrong) {
            Bench.argument("given " + triple[0] + " " + triple[1] + " " + triple[2],
                () -> watch.given(0, triple[0], triple[1], triple[2]));
        }
        watch.look();
        Bench.due("the set behind wrong ones", Bench.setAt(watch, 0, 0), "3");
    }

    private static void locationsThatAreNone() {
        StrideWatch watch = nop();
        for (int location : new int[] {-1, 24, Integer.MIN_VALUE, Integer.MAX_VALUE}) {
            Bench.argument("given to " + location, () -> watch.given(location, 0, 0, 0));
            Bench.argument("any of " + location, () -> watch.any(location));
        }
    }

    private static void whatWasLookedAtStays() {
        StrideWatch watch = nop();
        watch.given(3, 5, 9, 2);
        watch.look();
        watch.given(3, 1, 1, 0);
        Bench.due("behind given", Bench.setAt(watch, 0, 3), "5 9 2");
        watch.any(3);
        Bench.due("behind any", Bench.setAt(watch, 0, 3), "5 9 2");
        watch.look();
        Bench.due("when it is looked next", Bench.setAt(watch, 0, 3), "any");
    }

    private static void anyTakesASetAway() {
        StrideWatch watch = nop();
        for (int location = 0; location < 24; location++) {
            watch.given(location, location, location, 0);
        }
        watch.any(5);
        watch.any(5);
        watch.look();
        for (int location = 0; location < 24; location++) {
            Bench.due("set of " + location, Bench.setAt(watch, 0, location), location == 5 ? "any" : "" + location);
        }
    }
}
