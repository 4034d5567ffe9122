import java.util.ArrayList;
import java.util.List;
import java.util.function.Consumer;
import java.util.function.Supplier;

/**
 * "IllegalArgument is thrown where a number is none of those told here. What throws changes nothing."
 * Each call that is refused, in objects of all kinds: what it throws, and that all is told behind it as without it.
 */
public final class RefusalTest {
    private static final long B = 1L << 61;
    private static final int NOPS = 0x90909090;
    private static final int[] NO_LOCATIONS = {-1, 24, Integer.MIN_VALUE, Integer.MAX_VALUE};

    private final List<String> names = new ArrayList<>();
    private final List<Consumer<StrideWatch>> calls = new ArrayList<>();
    private final List<String> thrown = new ArrayList<>();
    private int refusals;

    public static void main(String[] args) {
        new RefusalTest().check("a new object", StrideWatch::new, 0, false, false);
        new RefusalTest().check("an object with code", RefusalTest::withCode, 15, false, false);
        new RefusalTest().check("an object in use", RefusalTest::inUse, 15, true, true);
        new RefusalTest().check("an object that only looked", RefusalTest::looked, 15, true, false);
        new RefusalTest().check("an object that only runs", RefusalTest::running, 15, false, true);
        new RefusalTest().check("an object that is full", RefusalTest::full, 200, true, true);
        new RefusalTest().check("an object that is nearly full", RefusalTest::nearlyFull, 185, true, true);
        new RefusalTest().check("an object that is tired", RefusalTest::tired, 131, false, true);
        new RefusalTest().check("an object that was erased", RefusalTest::erased, 0, false, false);
        new RefusalTest().check("an object without code that runs", RefusalTest::runningOut, 0, false, true);
        Bench.end();
    }

    private static StrideWatch withCode() {
        StrideWatch watch = Bench.fed("31 C9 48 83 F9 28 7D 06 48 83 C1 04 EB F4 C3");
        Bench.give(watch, "0:-7 5 12", "23:" + B);
        watch.put(0, 11);
        watch.put(23, Long.MIN_VALUE);
        return watch;
    }

    private static StrideWatch looked() {
        StrideWatch watch = withCode();
        watch.look();
        return watch;
    }

    private static StrideWatch running() {
        StrideWatch watch = withCode();
        watch.start();
        watch.go(7);
        return watch;
    }

    private static StrideWatch inUse() {
        StrideWatch watch = looked();
        // What is given and set behind looking and starting counts later on.
        watch.start();
        watch.go(7);
        watch.given(0, 1, 1, 0);
        watch.any(23);
        watch.put(0, 12);
        return watch;
    }

    private static StrideWatch full() {
        StrideWatch watch = Bench.fed("48 FF C0" + Bench.nops(197));
        watch.given(0, 0, 20, 4);
        watch.look();
        watch.start();
        watch.go(1);
        return watch;
    }

    private static StrideWatch nearlyFull() {
        StrideWatch watch = Bench.fed("48 FF C0" + Bench.nops(182));
        watch.look();
        watch.start();
        return watch;
    }

    private static StrideWatch tired() {
        StringBuilder chain = new StringBuilder("48 85 C0 74 05 E9 77 00 00 00 C3 EB FD");
        for (int i = 1; i < 60; i++) {
            chain.append("EB FC");
        }
        StrideWatch watch = Bench.fed(chain.toString());
        watch.look();
        watch.start();
        return watch;
    }

    private static StrideWatch erased() {
        StrideWatch watch = inUse();
        watch.erase();
        return watch;
    }

    private static StrideWatch runningOut() {
        StrideWatch watch = new StrideWatch();
        watch.put(7, 7);
        watch.start();
        return watch;
    }

    private void argument(String name, Consumer<StrideWatch> call) {
        refuse(name, call, "IllegalArgumentException");
    }

    private void state(String name, Consumer<StrideWatch> call) {
        refuse(name, call, "IllegalStateException");
    }

    private void refuse(String name, Consumer<StrideWatch> call, String exception) {
        names.add(name);
        calls.add(call);
        thrown.add(exception);
    }

    private void check(String scene, Supplier<StrideWatch> make, int count, boolean isLooked, boolean isRunning) {
        wrongFeeds(count);
        wrongLocations();
        noSets();
        wrongDecodes(count);
        wrongSets(count, isLooked);
        wrongGoes(isRunning);
        String want = picture(make.get(), count);
        String wantLater = later(make.get());
        for (int i = 0; i < calls.size(); i++) {
            String what = scene + ": " + names.get(i);
            Consumer<StrideWatch> call = calls.get(i);
            StrideWatch watch = make.get();
            Bench.due(what, Bench.answer(() -> call.accept(watch)), thrown.get(i));
            Bench.due("told behind " + what, picture(watch, count), want);
            StrideWatch other = make.get();
            Bench.due(what, Bench.answer(() -> call.accept(other)), thrown.get(i));
            Bench.due("told later behind " + what, later(other), wantLater);
            refusals++;
        }
        if (refusals < 50) {
            Bench.due("how many refusals in " + scene, refusals, "50 or more");
        }
    }

    private void wrongFeeds(int count) {
        for (int many : new int[] {-1, 17, Integer.MIN_VALUE, Integer.MAX_VALUE}) {
            argument("feed of " + many, watch -> watch.feed(many, NOPS, NOPS, NOPS, NOPS));
        }
        for (int many = 1; many <= 16; many++) {
            int more = many;
            if (count + many > 200) {
                state("feed of " + many, watch -> watch.feed(more, NOPS, NOPS, NOPS, NOPS));
            }
        }
    }

    private void wrongLocations() {
        for (int location : NO_LOCATIONS) {
            argument("given to " + location, watch -> watch.given(location, 3, 3, 0));
            argument("any of " + location, watch -> watch.any(location));
            argument("set of location " + location, watch -> watch.set(0, location, 0));
            argument("has of location " + location, watch -> watch.has(0, location, 0));
            argument("put of " + location, watch -> watch.put(location, 3));
            argument("value of " + location, watch -> watch.value(location));
        }
    }

    private void noSets() {
        long[][] triples = {{1, 2, 0}, {5, 5, 1}, {0, 0, -1}, {2, 1, 1}, {0, 4, 3}, {0, 4, 5}, {0, 4, -4}, {0, B + 1, 1}, {-B - 1, 0, 1},
            {B + 1, B + 1, 0}, {-B - 1, -B - 1, 0}, {Long.MIN_VALUE, Long.MAX_VALUE, 1}, {0, 1, Long.MIN_VALUE}};
        for (long[] triple : triples) {
            for (int location : new int[] {0, 23}) {
                argument("given " + triple[0] + " " + triple[1] + " " + triple[2] + " to " + location,
                    watch -> watch.given(location, triple[0], triple[1], triple[2]));
            }
        }
    }

    private void wrongDecodes(int count) {
        for (int address : new int[] {-1, count, 200, Integer.MIN_VALUE, Integer.MAX_VALUE}) {
            argument("decode at " + address, watch -> watch.decode(address, 0));
            argument("constant at " + address, watch -> watch.constant(address));
        }
        for (int what : new int[] {-1, 6, Integer.MIN_VALUE, Integer.MAX_VALUE}) {
            argument("decode of " + what, watch -> watch.decode(0, what));
        }
    }

    private void wrongSets(int count, boolean isLooked) {
        for (int what : new int[] {-1, 3, Integer.MIN_VALUE, Integer.MAX_VALUE}) {
            argument("set of " + what, watch -> watch.set(0, 0, what));
        }
        for (int address : new int[] {-1, 1, count, 200, Integer.MIN_VALUE, Integer.MAX_VALUE}) {
            state("set at " + address, watch -> watch.set(address, 0, 0));
        }
        if (!isLooked) {
            state("set at 0", watch -> watch.set(0, 0, 0));
        }
    }

    private void wrongGoes(boolean isRunning) {
        for (int many : new int[] {0, -1, 1001, Integer.MIN_VALUE, Integer.MAX_VALUE}) {
            argument("go " + many, watch -> watch.go(many));
        }
        if (!isRunning) {
            state("go 1", watch -> watch.go(1));
            state("go 1000", watch -> watch.go(1000));
        }
    }

    /** What is told of an object by calls that change nothing, in fewer than 400 calls. */
    private static String picture(StrideWatch watch, int count) {
        StringBuilder all = new StringBuilder();
        all.append("at ").append(watch.at());
        for (int location = 0; location < 24; location++) {
            all.append(' ').append(watch.value(location));
        }
        for (int address : new int[] {0, 2, 14, count - 1}) {
            all.append("\nat ").append(address).append(' ').append(watch.reached(address));
            if (address >= 0 && address < count) {
                all.append(' ').append(Bench.told(watch, address));
            }
            for (int location = 0; location < 24; location += address == 0 ? 1 : 23) {
                all.append(", ").append(Bench.setAt(watch, address, location)).append(' ').append(watch.has(address, location, 5));
            }
        }
        return all.toString();
    }

    /** What comes of an object: how the run goes on, what is given and set, and how many bytes there are. */
    private static String later(StrideWatch watch) {
        StringBuilder all = new StringBuilder();
        all.append("go ").append(Bench.answer(() -> watch.go(1))).append(Bench.answer(() -> watch.go(1)));
        all.append(" at ").append(watch.at()).append(' ').append(watch.value(0)).append(' ').append(watch.value(1));
        watch.start();
        all.append("\nstart ").append(watch.at());
        for (int location = 0; location < 24; location++) {
            all.append(' ').append(watch.value(location));
        }
        all.append("\nlook ").append(watch.look());
        int count = watch.erase();
        all.append("\nerase ").append(count);
        Bench.feed(watch, "90");
        watch.look();
        for (int location = 0; location < 24; location++) {
            all.append(", ").append(Bench.setAt(watch, 0, location));
        }
        return all.toString();
    }
}
