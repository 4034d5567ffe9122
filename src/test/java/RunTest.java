/** Promises 12 to 16: start, put, go, at and value. */
public final class RunTest {
    private static final int OUT = StrideWatch.OUT;

    public static void main(String[] args) {
        withoutRun();
        withoutCode();
        startingAgain();
        whatEndsARun();
        manyInstructions();
        leadingOut();
        unknownFlags();
        wrongNumbers();
        operations();
        halfWidthOperations();
        stackPlaces();
        Bench.end();
    }

    private static void withoutRun() {
        StrideWatch watch = Bench.fed("90");
        watch.put(0, 7);
        Bench.due("at without a run", watch.at(), StrideWatch.NONE);
        Bench.due("value without a run", watch.value(0), 0);
        Bench.state("go without a run", () -> watch.go(1));
        Bench.argument("go of 0 without a run", () -> watch.go(0));
        Bench.argument("value of 24 without a run", () -> watch.value(24));
    }

    private static void withoutCode() {
        StrideWatch watch = new StrideWatch();
        watch.put(2, 7);
        watch.start();
        Bench.due("at without code", watch.at(), OUT);
        Bench.due("value without code", watch.value(2), 7);
        Bench.due("go without code", watch.go(1), 3);
        Bench.due("go without code again", watch.go(1000), 3);
        Bench.due("at without code behind go", watch.at(), OUT);
    }

    private static void startingAgain() {
        StrideWatch watch = Bench.started("48 FF C0 C3", 5);
        Bench.due("go", watch.go(1), 0);
        Bench.due("value", watch.value(0), 6);
        watch.put(0, 50);
        watch.put(23, Long.MIN_VALUE);
        Bench.due("value behind put", watch.value(0), 6);
        Bench.due("value of 23 behind put", watch.value(23), 0);
        Bench.due("at behind put", watch.at(), 3);
        watch.look();
        watch.given(0, 1, 1, 0);
        Bench.due("at behind look", watch.at(), 3);
        watch.start();
        Bench.due("at behind start", watch.at(), 0);
        Bench.due("value behind start", watch.value(0), 50);
        Bench.due("value of 23 behind start", watch.value(23), Long.MIN_VALUE);
        watch.go(1);
        watch.start();
        Bench.due("value behind start again", watch.value(0), 50);
        for (int location = 0; location < 24; location++) {
            watch.put(location, 100 + location);
        }
        watch.start();
        for (int location = 0; location < 24; location++) {
            Bench.due("value of " + location, watch.value(location), 100 + location);
        }
    }

    private static void ends(String hex, int outcome, int where) {
        StrideWatch watch = Bench.started(hex);
        Bench.due("go of " + hex, watch.go(1000), outcome);
        Bench.due("at of " + hex, watch.at(), where);
        Bench.due("go again of " + hex, watch.go(1), outcome);
        Bench.due("at again of " + hex, watch.at(), where);
    }

    private static void whatEndsARun() {
        ends("C3", 1, 0);
        ends("90 F4 90", 1, 1);
        ends("06", 2, 0);
        ends("90 48 01", 2, 1);
        ends("90 48 01 C4 90", 2, 1);
        ends("90", 3, OUT);
        ends("EB 01 90", 3, OUT);
        ends("EB 70", 3, OUT);
        ends("EB FD", 3, OUT);
        ends("E9 FF FF FF 7F", 3, OUT);
        ends("E9 00 00 00 80", 3, OUT);
        ends("90 74 00 C3", 4, 1);
        ends("EB 01 06 C3", 1, 3);
        ends("EB FE", 0, 0);
    }

    private static void manyInstructions() {
        StrideWatch watch = Bench.started("48 FF C0 EB FB");
        Bench.due("go 1000", watch.go(1000), 0);
        Bench.due("value behind 1000", watch.value(0), 500);
        Bench.due("at behind 1000", watch.at(), 0);
        Bench.due("go 1", watch.go(1), 0);
        Bench.due("value behind 1001", watch.value(0), 501);
        Bench.due("at behind 1001", watch.at(), 3);
        StrideWatch ending = Bench.started("90 90 C3");
        Bench.due("go just up to END", ending.go(2), 0);
        Bench.due("at END", ending.at(), 2);
        Bench.due("go at END", ending.go(1), 1);
        StrideWatch further = Bench.started("90 90 C3");
        Bench.due("go one further", further.go(3), 1);
        Bench.due("at one further", further.at(), 2);
    }

    private static void leadingOut() {
        StrideWatch watch = Bench.started("90 48 FF C0");
        Bench.due("go that leads out", watch.go(2), 0);
        Bench.due("at when it is out", watch.at(), OUT);
        Bench.due("value when it is out", watch.value(0), 1);
        Bench.due("go when it is out", watch.go(1), 3);
        watch.start();
        Bench.due("go further than out", watch.go(3), 3);
        Bench.due("start when it was out", watch.value(0), 1);
        watch.start();
        Bench.due("at of a new run", watch.at(), 0);
    }

    private static void unknownFlags() {
        ends("0F 85 00 00 00 00", 4, 0);
        ends("48 39 C0 48 0F AF C1 74 00", 4, 7);
        ends("48 39 C0 48 C1 E0 01 74 00", 4, 7);
        ends("48 39 C0 48 C1 E0 00 74 00", 4, 7);
        ends("48 39 C0 48 C1 E8 00 74 00", 4, 7);
        ends("48 39 C0 C1 F8 00 74 00", 4, 6);
        ends("48 FF C0 74 00", 4, 3);
        ends("48 FF C8 72 00", 4, 3);
        ends("48 89 C0 F7 D0 48 63 C0 90 74 00", 4, 9);
        ends("48 39 C0 48 89 C8 48 F7 D1 48 63 C1 90 EB 00 74 00 C3", 1, 17);
        ends("48 39 C0 48 C1 E0 01 48 39 C0 74 00 C3", 1, 12);
        for (String hex : new String[] {"48 01 C0", "48 09 C0", "48 21 C0", "48 29 C0", "48 31 C0", "48 39 C0", "48 85 C0",
            "48 F7 D8", "48 F7 C0 01 00 00 00", "01 C0", "85 C0"}) {
            StrideWatch watch = Bench.started(hex + "74 00 C3");
            Bench.due("flags behind " + hex, watch.go(10), 1);
        }
        StrideWatch fresh = Bench.started("48 39 C0 EB 00 C3");
        fresh.go(10);
        Bench.due("erase", fresh.erase(), 6);
        Bench.feed(fresh, "74 00");
        fresh.start();
        Bench.due("flags of an earlier run", fresh.go(1), 4);
    }

    private static void wrongNumbers() {
        StrideWatch watch = Bench.started("90 90");
        for (int many : new int[] {0, -1, 1001, Integer.MIN_VALUE, Integer.MAX_VALUE}) {
            Bench.argument("go " + many, () -> watch.go(many));
        }
        for (int location : new int[] {-1, 24, Integer.MIN_VALUE, Integer.MAX_VALUE}) {
            Bench.argument("value of " + location, () -> watch.value(location));
            Bench.argument("put of " + location, () -> watch.put(location, 1));
        }
        Bench.due("at behind wrong numbers", watch.at(), 0);
    }

    private static void is(String hex, long a, long b, long want) {
        StrideWatch watch = Bench.started(hex, a, b);
        Bench.due("go of " + hex, watch.go(1), 0);
        Bench.due(hex + " of " + a + ", " + b, watch.value(0), want);
        Bench.due("the other one of " + hex, watch.value(1), b);
    }

    private static void operations() {
        long min = Long.MIN_VALUE;
        long max = Long.MAX_VALUE;
        is("48 01 C8", max, 1, min);
        is("48 29 C8", min, 1, max);
        is("48 21 C8", -16, 0x7F, 0x70);
        is("48 09 C8", -16, 3, -13);
        is("48 31 C8", -16, -1, 15);
        is("48 39 C8", 5, 7, 5);
        is("48 85 C8", 5, 7, 5);
        is("48 03 C1", 5, 7, 12);
        is("48 2B C1", 5, 7, -2);
        is("48 83 C0 80", 5, 7, -123);
        is("48 81 C0 00 00 00 80", 5, 7, 5 - (1L << 31));
        is("48 F7 D0", 5, 7, -6);
        is("48 F7 D8", 5, 7, -5);
        is("48 F7 D8", min, 7, min);
        is("48 FF C0", max, 7, min);
        is("48 FF C8", min, 7, max);
        is("48 89 C8", 5, -7, -7);
        is("48 8B C1", 5, -7, -7);
        is("48 C7 C0 FE FF FF FF", 5, 7, -2);
        is("48 B8 08 07 06 05 04 03 02 81", 5, 7, 0x8102030405060708L);
        is("48 C1 E0 3F", 3, 7, min);
        is("48 C1 E8 3F", -1, 7, 1);
        is("48 C1 F8 3F", -5, 7, -1);
        is("48 C1 E0 41", 3, 7, 6);
        is("48 C1 E0 00", -3, 7, -3);
        is("48 0F AF C1", -3, 7, -21);
        is("48 0F AF C1", max, max, 1);
        is("48 63 C1", 5, 0xFFFFFFFFL, -1);
        is("48 63 C1", 5, 0x17FFFFFFFL, 0x7FFFFFFF);
        is("90", 5, 7, 5);
    }

    private static void halfWidthOperations() {
        is("01 C8", -1, 1, 0);
        is("01 C8", 0x1_7FFFFFFFL, 1, 0x80000000L);
        is("29 C8", 0, 1, 0xFFFFFFFFL);
        is("21 C8", -1, -16, 0xFFFFFFF0L);
        is("09 C8", 0x1_00000001L, 2, 3);
        is("31 C8", 5, -1, 0xFFFFFFFAL);
        is("39 C8", -5, 7, -5);
        is("85 C8", -5, 7, -5);
        is("83 C0 FF", 0, 7, 0xFFFFFFFFL);
        is("83 F8 FF", -1, 7, -1);
        is("F7 D0", 0, 7, 0xFFFFFFFFL);
        is("F7 D8", 1, 7, 0xFFFFFFFFL);
        is("FF C0", -1, 7, 0);
        is("FF C8", 0, 7, 0xFFFFFFFFL);
        is("89 C8", 5, -7, 0xFFFFFFF9L);
        is("89 C0", -1, 7, 0xFFFFFFFFL);
        is("C7 C0 FE FF FF FF", 5, 7, 0xFFFFFFFEL);
        is("B8 FE FF FF FF", 5, 7, 0xFFFFFFFEL);
        is("C1 E0 1F", 3, 7, 0x80000000L);
        is("C1 E8 1F", -1, 7, 1);
        is("C1 F8 04", 0x80000000L, 7, 0xF8000000L);
        is("C1 E0 21", 3, 7, 6);
        is("C1 E0 20", -1, 7, 0xFFFFFFFFL);
        is("C1 E8 00", -1, 7, 0xFFFFFFFFL);
        is("C1 F8 00", -1, 7, 0xFFFFFFFFL);
        is("0F AF C1", 0x10000, 0x10001, 0x10000);
        is("0F AF C1", -3, 7, 0xFFFFFFEBL);
    }

    private static void stackPlaces() {
        StrideWatch watch = Bench.started("48 89 45 C0 48 83 45 C0 05 48 8B 4D C0 48 FF 4D F8 48 C7 45 F0 FF FF FF FF C3", 7);
        Bench.due("go on the stack", watch.go(100), 1);
        Bench.due("the last place", watch.value(23), 12);
        Bench.due("read from it", watch.value(1), 12);
        Bench.due("the first place", watch.value(16), -1);
        Bench.due("the second place", watch.value(17), -1);
        Bench.due("the third place", watch.value(18), 0);
        StrideWatch frame = Bench.fed("48 89 E8 48 01 E0 C3");
        frame.put(4, 1000);
        frame.put(5, 24);
        frame.start();
        frame.go(5);
        Bench.due("rsp and rbp are read", frame.value(0), 1024);
    }
}
