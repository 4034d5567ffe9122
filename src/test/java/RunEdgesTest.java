/** Edges of RUNS, of their flags, and of promises 12 to 16; each method has one sentence of the document. */
public final class RunEdgesTest {
    private static final int NONE = StrideWatch.NONE;
    private static final int OUT = StrideWatch.OUT;
    private static final String KNOWN = "48 39 C0";

    public static void main(String[] args) {
        startsAtZeroWithWhatWasSet();
        withoutCodeItIsOut();
        startsAgain();
        isSetForRunsToCome();
        numbersThatAreNoneOfPut();
        manyFromOneToThousand();
        doneExactly();
        aThousandInstructions();
        alsoIfTheLastOneLedOut();
        staysAtEnd();
        staysAtBad();
        staysOut();
        staysAtUnknownFlags();
        noRunIsStarted();
        whereTheRunIs();
        valuesInTheRun();
        flagsAtTheStart();
        flagsBehindShiftsAndProducts();
        flagsThatAreLeft();
        carryIsLeftByIncAndDec();
        unknownFlagsAreLeftByIncAndDec();
        Bench.end();
    }

    /** "A RUN starts at 0, with what LOCATIONS were set to (0 at first)." */
    private static void startsAtZeroWithWhatWasSet() {
        StrideWatch watch = Bench.fed("90");
        watch.put(0, Long.MIN_VALUE);
        watch.put(4, -1);
        watch.put(5, 1L << 61);
        watch.put(23, Long.MAX_VALUE);
        watch.start();
        Bench.due("at", watch.at(), 0);
        for (int location = 0; location < 24; location++) {
            long want = location == 0 ? Long.MIN_VALUE : location == 4 ? -1 : location == 5 ? 1L << 61
                : location == 23 ? Long.MAX_VALUE : 0;
            Bench.due("value of " + location, watch.value(location), want);
        }
    }

    /** "(without CODE it is OUT)" */
    private static void withoutCodeItIsOut() {
        StrideWatch watch = new StrideWatch();
        watch.put(23, 9);
        watch.start();
        Bench.due("at", watch.at(), OUT);
        Bench.due("go", watch.go(1), 3);
        Bench.due("go", watch.go(1000), 3);
        Bench.due("value", watch.value(23), 9);
        Bench.feed(watch, "90");
        Bench.due("at behind feed", watch.at(), NONE);
        watch.erase();
        watch.start();
        Bench.due("at behind erase and start", watch.at(), OUT);
    }

    /** "A RUN starts: LOCATIONS are as they were set", whatever the RUN before did. */
    private static void startsAgain() {
        StrideWatch watch = Bench.started(KNOWN + "48 FF C0 48 89 45 C0 C3", 5);
        Bench.due("go to the end", watch.go(1000), 1);
        Bench.due("value", watch.value(0), 6);
        Bench.due("value of a place", watch.value(23), 6);
        watch.start();
        Bench.due("at", watch.at(), 0);
        Bench.due("value of a new run", watch.value(0), 5);
        Bench.due("value of a place in a new run", watch.value(23), 0);
        for (String stop : new String[] {"06", "90", "74 00"}) {
            StrideWatch stopped = Bench.started(stop);
            stopped.go(1000);
            stopped.start();
            Bench.due("at of a new run of " + stop, stopped.at(), 0);
        }
    }

    /** "A LOCATION is set, for RUNS to come." */
    private static void isSetForRunsToCome() {
        StrideWatch watch = Bench.started("48 FF C0 EB FB", 5);
        watch.go(1);
        for (int location = 0; location < 24; location++) {
            watch.put(location, 100 + location);
        }
        Bench.due("value of 0 behind put", watch.value(0), 6);
        Bench.due("value of 23 behind put", watch.value(23), 0);
        Bench.due("at behind put", watch.at(), 3);
        watch.go(2);
        Bench.due("value of 0 further on", watch.value(0), 7);
        watch.put(0, 1);
        watch.put(0, 2);
        watch.start();
        Bench.due("value of 0 in the next run", watch.value(0), 2);
        for (int location = 1; location < 24; location++) {
            Bench.due("value of " + location + " in the next run", watch.value(location), 100 + location);
        }
    }

    /** Promise 13: "IllegalArgument." */
    private static void numbersThatAreNoneOfPut() {
        StrideWatch watch = Bench.fed("90");
        for (int location : new int[] {-1, 24, Integer.MIN_VALUE, Integer.MAX_VALUE}) {
            Bench.argument("put of " + location, () -> watch.put(location, 7));
        }
        watch.start();
        for (int location = 0; location < 24; location++) {
            Bench.due("value of " + location, watch.value(location), 0);
        }
    }

    /** "IllegalArgument: not 1 .. 1000." */
    private static void manyFromOneToThousand() {
        StrideWatch watch = Bench.started("48 FF C0 EB FB");
        for (int many : new int[] {0, -1, -1000, 1001, 2000, Integer.MIN_VALUE, Integer.MAX_VALUE}) {
            Bench.argument("go " + many, () -> watch.go(many));
        }
        Bench.due("value behind wrong numbers", watch.value(0), 0);
        Bench.due("go 1", watch.go(1), 0);
        Bench.due("value behind 1", watch.value(0), 1);
        Bench.due("at behind 1", watch.at(), 3);
        watch.start();
        Bench.due("go 1000", watch.go(1000), 0);
        Bench.due("value behind 1000", watch.value(0), 500);
        Bench.due("at behind 1000", watch.at(), 0);
        watch.start();
        Bench.due("go 999", watch.go(999), 0);
        Bench.due("value behind 999", watch.value(0), 500);
        Bench.due("at behind 999", watch.at(), 3);
    }

    /** "0 if so many were done": what would stop the next one is not told yet. */
    private static void doneExactly() {
        int[] outcomes = {1, 2, 4};
        String[] stops = {"C3", "06", "74 00"};
        for (int i = 0; i < stops.length; i++) {
            for (int many = 1; many <= 5; many++) {
                StrideWatch watch = Bench.started("90 90 90" + stops[i]);
                Bench.due("go " + many + " up to " + stops[i], watch.go(many), many <= 3 ? 0 : outcomes[i]);
                Bench.due("at behind " + many, watch.at(), Math.min(many, 3));
            }
        }
    }

    /** "Up to so many instructions": the thousandth is done, the one behind is not. */
    private static void aThousandInstructions() {
        String loop = KNOWN + "48 FF C9 75 FB 90 C3";
        // 1 and 2 for each number that rcx counts down and 1.
        StrideWatch exact = Bench.started(loop, 0, 499);
        Bench.due("go through 1000", exact.go(1000), 0);
        Bench.due("at behind 1000", exact.at(), 9);
        Bench.due("go to END", exact.go(1), 1);
        StrideWatch less = Bench.started(loop, 0, 498);
        Bench.due("go through 998", less.go(1000), 1);
        Bench.due("at behind 998", less.at(), 9);
        StrideWatch more = Bench.started(loop, 0, 500);
        Bench.due("go through 1000 of 1002", more.go(1000), 0);
        Bench.due("at behind 1000 of 1002", more.at(), 6);
        Bench.due("value behind 1000 of 1002", more.value(1), 0);
    }

    /** "(also if the last one led OUT)" */
    private static void alsoIfTheLastOneLedOut() {
        for (String last : new String[] {"90", "EB 00", "EB 10", "EB 80", "48 FF C0", "E9 00 00 00 80", "48 39 C0"}) {
            StrideWatch watch = Bench.started("90" + last);
            Bench.due("go 2 with " + last, watch.go(2), 0);
            Bench.due("at behind " + last, watch.at(), OUT);
            Bench.due("go 1 behind " + last, watch.go(1), 3);
            StrideWatch further = Bench.started("90" + last);
            Bench.due("go 3 with " + last, further.go(3), 3);
            Bench.due("at behind 3", further.at(), OUT);
        }
        StrideWatch taken = Bench.started(KNOWN + "74 00");
        Bench.due("go along a jump to the end", taken.go(2), 0);
        Bench.due("at behind it", taken.at(), OUT);
        StrideWatch passed = Bench.started(KNOWN + "75 80");
        Bench.due("go past a jump to the end", passed.go(2), 0);
        Bench.due("at behind it", passed.at(), OUT);
    }

    private static void stays(String hex, int outcome, int where) {
        StrideWatch watch = Bench.started(hex, 7, 8);
        for (int many : new int[] {1000, 1, 2, 1000}) {
            Bench.due("go of " + hex, watch.go(many), outcome);
            Bench.due("at of " + hex, watch.at(), where);
            Bench.due("value of " + hex, watch.value(0), 7);
        }
    }

    /** "1 END .. (it stays at each of these four, which is told again)" */
    private static void staysAtEnd() {
        stays("C3", 1, 0);
        stays("F4", 1, 0);
        stays("90 C3 90", 1, 1);
        stays("48 C3", 1, 0);
        stays(Bench.nops(199) + "F4", 1, 199);
    }

    /** "2 BAD" */
    private static void staysAtBad() {
        stays("06", 2, 0);
        stays("90 48 FF C4 90", 2, 1);
        stays("90 48 FF", 2, 1);
        stays("48", 2, 0);
        stays("48 89 44 F8 90", 2, 0);
        stays("7A 00", 2, 0);
        stays(Bench.nops(199) + "B8", 2, 199);
    }

    /** "3 OUT" */
    private static void staysOut() {
        stays("90", 3, OUT);
        stays("EB 00", 3, OUT);
        stays("EB FD", 3, OUT);
        stays("E9 FF FF FF 7F", 3, OUT);
        stays("E9 00 00 00 80", 3, OUT);
        stays(Bench.nops(200), 3, OUT);
    }

    /** "4 a JUMP IF with UNKNOWN flags", also where both ways are one */
    private static void staysAtUnknownFlags() {
        for (int c = 0; c < 16; c++) {
            if (c != 10 && c != 11) {
                stays("7" + Integer.toHexString(c) + "00 C3", 4, 0);
                stays("90 0F 8" + Integer.toHexString(c) + "00 00 00 00 C3", 4, 1);
                stays("7" + Integer.toHexString(c) + "70", 4, 0);
            }
        }
    }

    /** "IllegalState: no RUN is started."; a wrong many is told before. */
    private static void noRunIsStarted() {
        StrideWatch watch = Bench.fed("90 90");
        for (int many : new int[] {1, 2, 1000}) {
            Bench.state("go " + many + " before start", () -> watch.go(many));
        }
        for (int many : new int[] {0, 1001}) {
            Bench.argument("go " + many + " before start", () -> watch.go(many));
        }
        watch.start();
        Bench.due("go behind start", watch.go(1), 0);
        watch.feed(0, 0, 0, 0, 0);
        Bench.state("go behind feed", () -> watch.go(1));
        watch.start();
        watch.erase();
        Bench.state("go behind erase", () -> watch.go(1000));
    }

    /** "Where the RUN is (OUT, if there); NONE without one." */
    private static void whereTheRunIs() {
        StrideWatch watch = Bench.fed(Bench.nops(199) + "90");
        Bench.due("at before start", watch.at(), NONE);
        watch.start();
        Bench.due("at 0", watch.at(), 0);
        watch.go(199);
        Bench.due("at the last byte", watch.at(), 199);
        watch.go(1);
        Bench.due("at the end", watch.at(), OUT);
        Bench.due("at told again", watch.at(), OUT);
        watch.erase();
        Bench.due("at behind erase", watch.at(), NONE);
    }

    /** "A LOCATION in the RUN; 0 without one. IllegalArgument." */
    private static void valuesInTheRun() {
        StrideWatch watch = Bench.fed("48 FF C0 C3");
        for (int location = 0; location < 24; location++) {
            watch.put(location, 50 + location);
            Bench.due("value of " + location + " without a run", watch.value(location), 0);
        }
        for (int wrong : new int[] {-1, 24, Integer.MIN_VALUE, Integer.MAX_VALUE}) {
            Bench.argument("value of " + wrong + " without a run", () -> watch.value(wrong));
        }
        watch.start();
        Bench.due("go", watch.go(5), 1);
        for (int location = 0; location < 24; location++) {
            Bench.due("value of " + location, watch.value(location), location == 0 ? 51 : 50 + location);
        }
        for (int wrong : new int[] {-1, 24, Integer.MIN_VALUE, Integer.MAX_VALUE}) {
            Bench.argument("value of " + wrong, () -> watch.value(wrong));
        }
        watch.feed(0, 0, 0, 0, 0);
        Bench.due("value behind feed", watch.value(0), 0);
        watch.start();
        watch.erase();
        Bench.due("value behind erase", watch.value(0), 0);
    }

    private static void jumpIs(String hex, int outcome) {
        StrideWatch watch = Bench.started(hex + "74 00 C3");
        Bench.due("a jump behind " + hex, watch.go(1000), outcome);
    }

    /** "and at the start they are UNKNOWN", also at a later one */
    private static void flagsAtTheStart() {
        jumpIs("", 4);
        StrideWatch watch = Bench.started("EB 02 74 00 48 39 C0 EB F9");
        // From the first JUMP past the JUMP IF to CMP, and back to it.
        Bench.due("go to cmp and back", watch.go(4), 0);
        Bench.due("at the end", watch.at(), 4);
        StrideWatch again = Bench.started(KNOWN + "C3");
        again.go(10);
        again.erase();
        Bench.feed(again, "74 00 C3");
        again.start();
        Bench.due("flags of another run", again.go(1), 4);
    }

    /** "behind IMUL, SHL, SHR, SAR (also by 0) .. they are UNKNOWN" */
    private static void flagsBehindShiftsAndProducts() {
        for (String hex : new String[] {"48 0F AF C1", "0F AF C1", "48 C1 E0 01", "48 C1 E8 01", "48 C1 F8 01", "C1 E0 01", "C1 E8 01",
            "C1 F8 01", "48 C1 E0 00", "48 C1 E8 00", "48 C1 F8 00", "C1 E0 00", "C1 E8 00", "C1 F8 00", "48 C1 E0 40", "C1 E0 20",
            "C1 E8 20", "C1 F8 20", "48 C1 65 F8 00"}) {
            jumpIs(KNOWN + hex, 4);
            jumpIs(KNOWN + hex + "48 FF C0", 4);
            jumpIs(KNOWN + hex + "48 89 C0 90", 4);
            jumpIs(KNOWN + hex + KNOWN, 1);
        }
    }

    /** "MOV, SIGN, NOT, NOP leave them" */
    private static void flagsThatAreLeft() {
        for (String hex : new String[] {"48 89 C8", "89 C8", "48 8B C1", "48 C7 C0 05 00 00 00", "C7 C0 05 00 00 00", "B8 05 00 00 00",
            "48 B8 05 00 00 00 00 00 00 00", "48 63 C1", "48 F7 D0", "F7 D0", "90", "EB 00", "48 89 45 F8"}) {
            jumpIs(hex, 4);
            jumpIs(KNOWN + hex, 1);
            // C and S of 1 - 2 are left: below, with sign, not zero.
            for (String jump : new String[] {"72", "78", "75", "7C", "71"}) {
                StrideWatch watch = Bench.fed("48 39 DA" + hex + jump + "01 C3 90");
                watch.put(2, 1);
                watch.put(3, 2);
                watch.start();
                watch.go(1000);
                Bench.due(jump + " behind " + hex, watch.at(), OUT);
            }
        }
    }

    private static void carry(String hex, long number, boolean before) {
        for (int width = 32; width <= 64; width += 32) {
            // CMP of 1 with 2 has C, of 2 with 1 it has not.
            StrideWatch watch = Bench.fed((before ? "48 39 DA" : "48 39 D3") + (width == 64 ? "48" : "") + hex + "72 01 C3 90");
            watch.put(0, number);
            watch.put(2, 1);
            watch.put(3, 2);
            watch.start();
            int length = 3 + (width == 64 ? 3 : 2) + 2;
            watch.go(3);
            Bench.due("C behind " + hex + " of " + number, watch.at(), before ? length + 1 : length);
        }
    }

    /** "INC, DEC leave C", also where a sum would have it or not */
    private static void carryIsLeftByIncAndDec() {
        for (long number : new long[] {0, 1, -1, 5, Long.MIN_VALUE, Long.MAX_VALUE, 0xFFFFFFFFL, 0x7FFFFFFFL, 0x80000000L}) {
            for (int before = 0; before <= 1; before++) {
                carry("FF C0", number, before == 1);
                carry("FF C8", number, before == 1);
            }
        }
    }

    /** "INC, DEC leave .. flags that are UNKNOWN" */
    private static void unknownFlagsAreLeftByIncAndDec() {
        for (String hex : new String[] {"48 FF C0", "48 FF C8", "FF C0", "FF C8", "48 FF 45 F8", "48 FF 4D F8"}) {
            jumpIs(hex, 4);
            jumpIs(hex + hex, 4);
            jumpIs(KNOWN + hex, 1);
            for (int c = 0; c < 16; c++) {
                if (c != 10 && c != 11) {
                    StrideWatch watch = Bench.started(hex + "7" + Integer.toHexString(c) + "00 C3");
                    Bench.due("condition " + c + " behind " + hex, watch.go(1000), 4);
                }
            }
        }
    }
}
