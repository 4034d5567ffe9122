/** Edges of CODE, ADDRESSES and LOCATIONS, and of promises 1 to 3; each method has one sentence of the document. */
public final class CodeEdgesTest {
    private static final int NOPS = 0x90909090;

    public static void main(String[] args) {
        atMostTwoHundredBytes();
        everyFeedNearTheMost();
        manyIsNoneOfSixteen();
        manyIsLookedAtBeforeHowMuchThereIs();
        theHighestFirst();
        bytesBeyondManyAreLeft();
        feedingMakesLookingAndRunNoMore();
        feedingNothingToNothing();
        erasingTellsHowManyThereWere();
        erasedBytesAreNoMore();
        erasingMakesLookingAndRunNoMore();
        erasingLeavesWhatWasGivenAndSet();
        addressesFromZeroOn();
        outsideOrAtTheEndIsOut();
        outsideOrAtTheEndHasNoPoint();
        placesOfTheStackAreLocations();
        numbersHaveSixtyFourBits();
        aNewObjectIsEmpty();
        fiveHundredAndTwelveCalls();
        Bench.end();
    }

    private static StrideWatch withNops(int count) {
        StrideWatch watch = new StrideWatch();
        for (int rest = count; rest > 0; rest -= 16) {
            watch.feed(Math.min(rest, 16), NOPS, NOPS, NOPS, NOPS);
        }
        return watch;
    }

    /** "CODE is at most 200 bytes"; "IllegalState: there would be more than 200." */
    private static void atMostTwoHundredBytes() {
        StrideWatch watch = withNops(192);
        Bench.state("feed of 9 to 192", () -> watch.feed(9, NOPS, NOPS, NOPS, NOPS));
        Bench.due("feed of 8 to 192", watch.feed(8, NOPS, NOPS, NOPS, NOPS), 200);
        Bench.due("the last byte", watch.decode(199, 1), 21);
        Bench.argument("the byte behind", () -> watch.decode(200, 1));
        Bench.state("feed of 1 to 200", () -> watch.feed(1, NOPS, NOPS, NOPS, NOPS));
        Bench.state("feed of 16 to 200", () -> watch.feed(16, NOPS, NOPS, NOPS, NOPS));
        Bench.due("feed of 0 to 200", watch.feed(0, NOPS, NOPS, NOPS, NOPS), 200);
        Bench.due("look at 200 bytes", watch.look(), 1);
        Bench.due("reached 199", watch.reached(199), 1);
        Bench.due("reached 200", watch.reached(200), 0);
        watch.start();
        Bench.due("go through 199 bytes", watch.go(199), 0);
        Bench.due("at behind 199 bytes", watch.at(), 199);
        Bench.due("go through the last byte", watch.go(1), 0);
        Bench.due("at behind 200 bytes", watch.at(), StrideWatch.OUT);
        Bench.due("erase of 200 bytes", watch.erase(), 200);
    }

    /** The same, from each count near 200 and by each many. */
    private static void everyFeedNearTheMost() {
        for (int count = 183; count <= 200; count++) {
            for (int many = 0; many <= 16; many++) {
                StrideWatch watch = withNops(count);
                int more = many;
                String want = count + many <= 200 ? "" + (count + many) : "IllegalStateException";
                String what = "feed of " + many + " to " + count;
                Bench.due(what, Bench.answer(() -> watch.feed(more, NOPS, NOPS, NOPS, NOPS)), want);
                Bench.due("bytes behind " + what, watch.erase(), count + many <= 200 ? count + many : count);
            }
        }
    }

    /** "IllegalArgument: many is not 0 .. 16." */
    private static void manyIsNoneOfSixteen() {
        StrideWatch watch = new StrideWatch();
        for (int many : new int[] {-1, 17, -16, 32, 256, Integer.MIN_VALUE, Integer.MAX_VALUE}) {
            Bench.argument("feed of " + many, () -> watch.feed(many, NOPS, NOPS, NOPS, NOPS));
        }
        Bench.due("feed of 0", watch.feed(0, NOPS, NOPS, NOPS, NOPS), 0);
        Bench.due("feed of 16", watch.feed(16, NOPS, NOPS, NOPS, NOPS), 16);
    }

    private static void manyIsLookedAtBeforeHowMuchThereIs() {
        StrideWatch watch = withNops(200);
        for (int many : new int[] {-1, 17, Integer.MIN_VALUE, Integer.MAX_VALUE}) {
            Bench.argument("feed of " + many + " to 200", () -> watch.feed(many, NOPS, NOPS, NOPS, NOPS));
        }
    }

    /** "four in each number, the highest first": the numbers' own signs are nothing but a bit. */
    private static void theHighestFirst() {
        StrideWatch watch = new StrideWatch();
        watch.feed(2, 0x48B80000, 0, 0, 0);
        watch.feed(8, 0x80FF7F01, 0xFE0280C3, 0, 0);
        Bench.due("eight bytes, the lowest first", watch.constant(0), 0xC38002FE017FFF80L);
        watch.feed(2, 0x48B80000, 0, 0, 0);
        watch.feed(8, -1, -1, 0, 0);
        Bench.due("eight bytes of -1", watch.constant(10), -1);
        StrideWatch last = new StrideWatch();
        last.feed(16, 0x90909090, 0x909048B8, 0x01020304, 0x05060788);
        Bench.due("bytes of the third and the fourth number", last.constant(6), 0x8807060504030201L);
    }

    /** "many of them": the others in the four numbers do not come to the CODE. */
    private static void bytesBeyondManyAreLeft() {
        for (int many = 0; many <= 16; many++) {
            StrideWatch watch = new StrideWatch();
            Bench.due("feed of " + many, watch.feed(many, NOPS, NOPS, NOPS, NOPS), many);
            int behind = many;
            Bench.argument("byte behind feed of " + many, () -> watch.decode(behind, 0));
            Bench.due("feed behind " + many, watch.feed(1, 0xC3909090, NOPS, NOPS, NOPS), many + 1);
            Bench.due("operation fed behind " + many, watch.decode(many, 1), 22);
            Bench.due("all of the bytes", watch.erase(), many + 1);
        }
    }

    /** "What was looked at, and the RUN, are no more", also where no byte comes. */
    private static void feedingMakesLookingAndRunNoMore() {
        for (int many : new int[] {0, 1, 16}) {
            StrideWatch watch = Bench.fed("48 FF C0 90");
            watch.given(3, 5, 5, 0);
            watch.put(0, 7);
            watch.look();
            watch.start();
            watch.go(1);
            Bench.due("feed", watch.feed(many, NOPS, NOPS, NOPS, NOPS), 4 + many);
            Bench.due("reached behind feed of " + many, watch.reached(0), 0);
            Bench.due("reached behind feed of " + many, watch.reached(3), 0);
            Bench.state("set behind feed of " + many, () -> watch.set(0, 3, 0));
            Bench.due("has behind feed of " + many, watch.has(0, 3, 5), false);
            Bench.due("at behind feed of " + many, watch.at(), StrideWatch.NONE);
            Bench.due("value behind feed of " + many, watch.value(0), 0);
            Bench.state("go behind feed of " + many, () -> watch.go(1));
            watch.look();
            watch.start();
            Bench.due("what was given before feed of " + many, Bench.setAt(watch, 0, 3), "5");
            Bench.due("what was set before feed of " + many, watch.value(0), 7);
        }
    }

    private static void feedingNothingToNothing() {
        StrideWatch watch = new StrideWatch();
        watch.start();
        Bench.due("at without code", watch.at(), StrideWatch.OUT);
        Bench.due("feed of nothing", watch.feed(0, -1, -1, -1, -1), 0);
        Bench.due("at behind it", watch.at(), StrideWatch.NONE);
        Bench.due("look behind it", watch.look(), 0);
        Bench.due("erase behind it", watch.erase(), 0);
    }

    /** "No CODE: how many bytes there were." */
    private static void erasingTellsHowManyThereWere() {
        for (int count : new int[] {0, 1, 16, 17, 199, 200}) {
            StrideWatch watch = withNops(count);
            Bench.due("erase of " + count, watch.erase(), count);
            Bench.due("erase again", watch.erase(), 0);
            Bench.due("look behind erase", watch.look(), 0);
            Bench.due("feed behind erase", watch.feed(16, NOPS, NOPS, NOPS, NOPS), 16);
        }
        StrideWatch twice = withNops(200);
        twice.erase();
        for (int i = 1; i <= 12; i++) {
            Bench.due("feed anew", twice.feed(16, NOPS, NOPS, NOPS, NOPS), 16 * i);
        }
        Bench.due("feed up to 200 anew", twice.feed(8, NOPS, NOPS, NOPS, NOPS), 200);
    }

    /** "No CODE": what is fed later is not read on into bytes that were there before. */
    private static void erasedBytesAreNoMore() {
        StrideWatch watch = Bench.fed("48 B8 01 02 03 04 05 06 07 08");
        watch.erase();
        Bench.argument("decode of an erased byte", () -> watch.decode(0, 0));
        Bench.argument("constant of an erased byte", () -> watch.constant(0));
        Bench.feed(watch, "48 B8 01");
        Bench.due("what goes on in erased bytes", Bench.told(watch, 0), Bench.BAD);
        Bench.argument("decode behind the bytes", () -> watch.decode(3, 0));
        watch.start();
        Bench.due("go into erased bytes", watch.go(1), 2);
    }

    /** "What was looked at, and the RUN, are no more", also without any byte. */
    private static void erasingMakesLookingAndRunNoMore() {
        StrideWatch watch = Bench.fed("90 C3");
        watch.put(0, 7);
        watch.look();
        watch.start();
        watch.erase();
        Bench.due("reached behind erase", watch.reached(0) + watch.reached(1), 0);
        Bench.state("set behind erase", () -> watch.set(0, 0, 0));
        Bench.due("has behind erase", watch.has(0, 0, 0), false);
        Bench.due("at behind erase", watch.at(), StrideWatch.NONE);
        Bench.due("value behind erase", watch.value(0), 0);
        Bench.state("go behind erase", () -> watch.go(1));
        watch.start();
        Bench.due("at of a run without code", watch.at(), StrideWatch.OUT);
        watch.erase();
        Bench.due("at behind erase of nothing", watch.at(), StrideWatch.NONE);
        Bench.feed(watch, "90 C3");
        Bench.due("reached behind erase and feed", watch.reached(0) + watch.reached(1), 0);
        Bench.due("at behind erase and feed", watch.at(), StrideWatch.NONE);
    }

    /** "(SETS given and LOCATIONS set stay)" */
    private static void erasingLeavesWhatWasGivenAndSet() {
        StrideWatch watch = Bench.fed("90");
        for (int location = 0; location < 24; location++) {
            watch.given(location, location, location + 6, 3);
            watch.put(location, -location);
        }
        watch.erase();
        Bench.feed(watch, "90");
        watch.look();
        watch.start();
        for (int location = 0; location < 24; location++) {
            String want = location + " " + (location + 6) + " 3";
            Bench.due("given before erase", Bench.setAt(watch, 0, location), want);
            Bench.due("put before erase", watch.value(location), -location);
        }
    }

    /** "at ADDRESSES from 0 on"; "IllegalArgument: there is no such byte" */
    private static void addressesFromZeroOn() {
        for (int count : new int[] {0, 1, 2, 16, 199, 200}) {
            StrideWatch watch = withNops(count);
            for (int address : new int[] {-1, count, count + 1, 200, 201, Integer.MIN_VALUE, Integer.MAX_VALUE}) {
                Bench.argument("decode at " + address + " of " + count, () -> watch.decode(address, 0));
                Bench.argument("constant at " + address + " of " + count, () -> watch.constant(address));
            }
            if (count > 0) {
                Bench.due("decode at 0 of " + count, watch.decode(0, 0), 1);
                Bench.due("decode at the last of " + count, watch.decode(count - 1, 0), 1);
                Bench.due("constant at the last of " + count, watch.constant(count - 1), 0);
            }
        }
    }

    /** "An address outside of the CODE (or at its end) is OUT", where a run goes. */
    private static void outsideOrAtTheEndIsOut() {
        int out = StrideWatch.OUT;
        int[][] distances = {{-5, 0}, {-6, out}, {-7, out}, {2, 7}, {3, out}, {4, out}, {Integer.MIN_VALUE, out},
            {Integer.MAX_VALUE, out}, {0, 5}, {194, out}, {195, out}, {196, out}};
        for (int[] row : distances) {
            String jump = "E9" + fourBytes(row[0]);
            StrideWatch watch = Bench.started(jump + "90 90 90");
            Bench.due("go by " + row[0], watch.go(1), 0);
            Bench.due("at behind a jump by " + row[0], watch.at(), row[1]);
            if (row[1] == out) {
                Bench.due("go further", watch.go(1), 3);
            }
        }
        int[][] fromTheEnd = {{-128, 72}, {-1, 199}, {0, out}, {1, out}, {127, out}};
        for (int[] row : fromTheEnd) {
            StrideWatch watch = Bench.started("E9 C1 00 00 00" + Bench.nops(193) + "EB" + Bench.hex(row[0]));
            Bench.due("go to 198", watch.go(1), 0);
            Bench.due("at 198", watch.at(), 198);
            Bench.due("go from 198", watch.go(1), 0);
            Bench.due("at behind a jump from 198 by " + row[0], watch.at(), row[1]);
        }
        StrideWatch behind = Bench.started("90");
        behind.go(1);
        Bench.due("at behind the last byte", behind.at(), out);
    }

    private static String fourBytes(int number) {
        StringBuilder hex = new StringBuilder();
        for (int i = 0; i < 4; i++) {
            hex.append(Bench.hex(number >> (8 * i)));
        }
        return hex.toString();
    }

    /** The same, where LOOKING goes: "none goes OUT". */
    private static void outsideOrAtTheEndHasNoPoint() {
        for (int distance : new int[] {-6, -7, 3, 4, 194, 195, 196, Integer.MIN_VALUE, Integer.MAX_VALUE}) {
            StrideWatch watch = Bench.fed("E9" + fourBytes(distance) + "90 90 90");
            Bench.due("look at a jump by " + distance, watch.look(), 1);
            for (int address = 1; address < 9; address++) {
                Bench.due("reached " + address + " by " + distance, watch.reached(address), 0);
            }
        }
        StrideWatch last = Bench.fed("E9 02 00 00 00 90 90 90");
        last.look();
        Bench.due("reached the last byte", last.reached(7), 1);
        Bench.due("reached the end", last.reached(8), 0);
        StrideWatch back = Bench.fed("E9 FB FF FF FF");
        Bench.due("look at a jump to 0", back.look(), 1);
        Bench.due("reached 0", back.reached(0), 1);
    }

    /** "16 .. 23: the eight bytes at rbp - 8, rbp - 16, .. rbp - 64" */
    private static void placesOfTheStackAreLocations() {
        for (int i = 0; i < 8; i++) {
            StrideWatch watch = Bench.fed("48 89 45" + Bench.hex(-8 - 8 * i) + "C3");
            watch.given(0, 5, 5, 0);
            watch.put(0, 6);
            watch.look();
            watch.start();
            watch.go(1);
            for (int location = 16; location < 24; location++) {
                boolean here = location == 16 + i;
                Bench.due("set of place " + location, Bench.setAt(watch, 4, location), here ? "5" : "any");
                Bench.due("value of place " + location, watch.value(location), here ? 6 : 0);
            }
        }
        // rbp is a number like others: a place of the stack does not move with it.
        StrideWatch watch = Bench.fed("48 8B 45 F8 C3");
        watch.put(5, -8);
        watch.put(16, 3);
        watch.put(17, 4);
        watch.start();
        watch.go(1);
        Bench.due("a place with rbp", watch.value(0), 3);
    }

    /** "They have 64 bits, read as numbers with a sign." */
    private static void numbersHaveSixtyFourBits() {
        StrideWatch watch = Bench.fed("48 FF C0 48 FF C9 48 FF 45 C0 48 FF 4D F8 C3");
        watch.put(0, Long.MAX_VALUE);
        watch.put(1, Long.MIN_VALUE);
        watch.put(23, -1);
        watch.put(16, 0);
        watch.start();
        Bench.due("the greatest number", watch.value(0), Long.MAX_VALUE);
        Bench.due("the least number", watch.value(1), Long.MIN_VALUE);
        watch.go(4);
        Bench.due("one more than the greatest", watch.value(0), Long.MIN_VALUE);
        Bench.due("one less than the least", watch.value(1), Long.MAX_VALUE);
        Bench.due("one more than -1", watch.value(23), 0);
        Bench.due("one less than 0", watch.value(16), -1);
    }

    /** Promise 1: "No CODE; all LOCATIONS are ANY at POINT 0, and 0 for a RUN; nothing looked at, no RUN started." */
    private static void aNewObjectIsEmpty() {
        Bench.due("bytes", new StrideWatch().erase(), 0);
        Bench.due("look", new StrideWatch().look(), 0);
        Bench.due("at", new StrideWatch().at(), StrideWatch.NONE);
        Bench.state("go", () -> new StrideWatch().go(1));
        StrideWatch fed = Bench.fed("90");
        Bench.due("reached", fed.reached(0), 0);
        Bench.due("at with code", fed.at(), StrideWatch.NONE);
        Bench.state("set", () -> fed.set(0, 0, 0));
        Bench.due("has", fed.has(0, 0, 0), false);
        fed.look();
        fed.start();
        for (int location = 0; location < 24; location++) {
            Bench.due("set of " + location, Bench.setAt(fed, 0, location), "any");
            Bench.due("value of " + location, fed.value(location), 0);
        }
    }

    /** "An object is used for at most 512 calls": the last one is as good as the first one. */
    private static void fiveHundredAndTwelveCalls() {
        StrideWatch watch = withNops(200);
        int calls = 13;
        while (calls < 508) {
            Bench.due("look behind " + calls + " calls", watch.look(), 1);
            Bench.due("reached behind " + calls + " calls", watch.reached(199), 1);
            watch.start();
            Bench.due("go behind " + calls + " calls", watch.go(1000), 3);
            Bench.argument("put behind " + calls + " calls", () -> watch.put(24, 0));
            calls += 5;
        }
        watch.given(0, 3, 3, 0);
        watch.look();
        watch.at();
        Bench.due("call 512", calls == 508 ? watch.set(199, 0, 0) : calls, 3);
    }
}
