/** Edges of LOOKING and of promises 8 to 11; each method has one sentence of the document. */
public final class LookEdgesTest {
    private static final long B = 1L << 61;
    private static final int[] FAR = {-1, -2, 200, 201, Integer.MIN_VALUE, Integer.MAX_VALUE};

    public static void main(String[] args) {
        withoutCode();
        eachRoundGoesThroughAPoint();
        addressesFromZeroOn();
        onlyWhatHasChanged();
        theRecordAloneIsAChange();
        endAndBadHaveNoEdges();
        theStartCountsAtPointZero();
        threeTimesBeforeWidening();
        onlyEdgesBackAreWidened();
        sixtyRounds();
        tired();
        tiredAgain();
        tiredWithPointsLeft();
        reachedWhereNothingCame();
        reachedBeforeLooking();
        theThreeNumbersOfASet();
        setWhereNothingCame();
        numbersThatAreNoneOfSet();
        hasAtTheBounds();
        hasOfAny();
        hasWhereNothingCame();
        numbersThatAreNoneOfHas();
        lookingAnew();
        Bench.end();
    }

    private static void reached(StrideWatch watch, int... pairs) {
        for (int i = 0; i < pairs.length; i += 2) {
            Bench.due("reached " + pairs[i], watch.reached(pairs[i]), pairs[i + 1]);
        }
    }

    /** "0 without CODE, where nothing comes to any" */
    private static void withoutCode() {
        StrideWatch watch = new StrideWatch();
        Bench.due("look without code", watch.look(), 0);
        reached(watch, 0, 0, 1, 0, 199, 0);
        Bench.state("set without code", () -> watch.set(0, 0, 0));
        Bench.due("has without code", watch.has(0, 0, 0), false);
        Bench.feed(watch, "90");
        Bench.due("look at one byte", watch.look(), 1);
        watch.erase();
        Bench.due("look behind erase", watch.look(), 0);
        reached(watch, 0, 0);
    }

    /** "how many ROUNDS (each one goes through a POINT at least..)" */
    private static void eachRoundGoesThroughAPoint() {
        for (String hex : new String[] {"90", "C3", "F4", "06", "48", "EB FE", "EB 00", "74 FE"}) {
            Bench.due("look at " + hex, Bench.fed(hex).look(), 1);
        }
        Bench.due("look where a jump goes back to new bytes", Bench.fed("EB 01 C3 EB FD").look(), 2);
    }

    /** "In each ROUND addresses from 0 on": forward at once, back in the next one. */
    private static void addressesFromZeroOn() {
        StrideWatch forward = Bench.fed("EB 01 90 EB 01 90 EB 01 90 C3");
        Bench.due("look forward", forward.look(), 1);
        reached(forward, 0, 1, 3, 1, 6, 1, 9, 1, 2, 0, 5, 0, 8, 0);
        StrideWatch back = Bench.fed("EB 05 C3 EB FD EB FC EB FC");
        Bench.due("look back", back.look(), 4);
        reached(back, 0, 1, 7, 1, 5, 1, 3, 1, 2, 1);
        StrideWatch full = Bench.fed(Bench.nops(199) + "C3");
        Bench.due("look at 200 points", full.look(), 1);
        reached(full, 199, 1, 200, 0);
    }

    /** "each POINT that has changed since it was last gone through" */
    private static void onlyWhatHasChanged() {
        StrideWatch same = Bench.fed("90 48 89 C8 EB FA");
        same.given(0, 3, 3, 0);
        same.given(1, 3, 3, 0);
        Bench.due("look at a loop that changes nothing", same.look(), 1);
        reached(same, 0, 1, 1, 1, 4, 1);
        StrideWatch once = Bench.fed("90 48 89 C8 EB FA");
        once.given(0, 3, 3, 0);
        once.given(1, 5, 5, 0);
        // POINT 4 has 5 in either round: only 0 and 1 change.
        Bench.due("look at a loop that changes once", once.look(), 2);
        reached(once, 0, 2, 1, 2, 4, 1);
    }

    /** "it has got something, and changed, if a SET or the RECORD is another one then" */
    private static void theRecordAloneIsAChange() {
        StrideWatch watch = Bench.fed("48 85 C0 74 05 48 39 DB EB F9 C3");
        watch.given(0, 0, 20, 4);
        Bench.due("look where a record goes", watch.look(), 2);
        reached(watch, 0, 1, 3, 2, 5, 2, 8, 2, 10, 2);
        Bench.due("behind the record's end, not taken", Bench.setAt(watch, 5, 0), "0 20 4");
        Bench.due("behind the record's end, taken", Bench.setAt(watch, 10, 0), "0 20 4");
    }

    /** "END, BAD have no edges, and none goes OUT." */
    private static void endAndBadHaveNoEdges() {
        for (String hex : new String[] {"C3", "F4", "06", "48 83 C4 08", "EB 7F", "EB 80", "E9 FF FF FF 7F"}) {
            StrideWatch watch = Bench.fed(hex + "90 90");
            Bench.due("look at " + hex, watch.look(), 1);
            for (int address = 1; address <= 10; address++) {
                Bench.due("reached " + address + " behind " + hex, watch.reached(address), 0);
            }
        }
        StrideWatch last = Bench.fed("74 00");
        Bench.due("look at a jump to the end", last.look(), 1);
        reached(last, 0, 1, 2, 0);
    }

    /** "(POINT 0 once at the start)" */
    private static void theStartCountsAtPointZero() {
        StrideWatch watch = Bench.fed("48 FF C0 EB FB");
        watch.given(0, 0, 0, 0);
        // POINT 0 has 0, 0 .. 1, 0 .. 2, 0 .. B and ANY.
        Bench.due("look at a loop to 0", watch.look(), 5);
        reached(watch, 0, 5, 3, 4);
        Bench.due("at 0", Bench.setAt(watch, 0, 0), "any");
    }

    /** "and the POINT there has got something at least three times" */
    private static void threeTimesBeforeWidening() {
        StrideWatch twice = Bench.fed("31 C9 48 83 F9 08 7D 06 48 83 C1 04 EB F4 C3");
        Bench.due("look at 0, 4, 8", twice.look(), 3);
        reached(twice, 2, 3, 14, 1);
        Bench.due("the head of 0, 4, 8", Bench.setAt(twice, 2, 1), "0 8 4");
        Bench.due("behind 0, 4, 8", Bench.setAt(twice, 14, 1), "8");
        StrideWatch thrice = Bench.fed("31 C9 48 83 F9 0C 7D 06 48 83 C1 04 EB F4 C3");
        Bench.due("look at 0, 4, 8, 12", thrice.look(), 4);
        reached(thrice, 2, 4, 14, 1);
        Bench.due("the head of 0, 4, 8, 12", Bench.setAt(thrice, 2, 1), "0 " + B + " 4");
        Bench.due("behind 0, 4, 8, 12", Bench.setAt(thrice, 14, 1), "12 " + B + " 4");
    }

    /** "if the edge goes to an address that is not higher than this instruction's" */
    private static void onlyEdgesBackAreWidened() {
        StringBuilder hex = new StringBuilder();
        for (int i = 0; i < 8; i++) {
            hex.append("48 FF C0 74").append(Bench.hex(5 * (7 - i) + 1));
        }
        StrideWatch watch = Bench.fed(hex + "C3 C3");
        watch.given(0, 3, 10, 7);
        Bench.due("look at eight edges forward", watch.look(), 1);
        // A RESULT of 0 never comes: each INC takes the numbers further up from 0.
        reached(watch, 40, 1, 41, 0);
        StringBuilder moves = new StringBuilder();
        for (int i = 0; i < 8; i++) {
            moves.append("48 FF C0 72").append(Bench.hex(5 * (7 - i) + 1));
        }
        StrideWatch joined = Bench.fed(moves + "C3 C3");
        joined.given(0, 3, 10, 7);
        Bench.due("look at eight edges to one point", joined.look(), 1);
        reached(joined, 40, 1, 41, 8);
        Bench.due("what is joined eight times", Bench.setAt(joined, 41, 0), "4 18 1");
    }

    /** A jump to the last of so many jumps, each of which goes back to the one before. */
    private static String chain(int many) {
        StringBuilder hex = new StringBuilder("48 85 C0 74 05 E9");
        hex.append(Bench.hex(1 + 2 * (many - 1))).append("00 00 00 C3 EB FD");
        for (int i = 1; i < many; i++) {
            hex.append("EB FC");
        }
        return hex.toString();
    }

    /** "if some are behind 60 ROUNDS it is TIRED" */
    private static void sixtyRounds() {
        for (int many : new int[] {1, 2, 57, 58, 59}) {
            Bench.due("look at a chain of " + many, Bench.fed(chain(many)).look(), many + 1);
        }
        for (int many : new int[] {60, 61, 90}) {
            Bench.due("look at a chain of " + many, Bench.fed(chain(many)).look(), StrideWatch.NONE);
        }
    }

    /** "NONE if it is TIRED (nothing is looked at then)" */
    private static void tired() {
        StrideWatch watch = Bench.fed(chain(60));
        watch.put(0, 7);
        watch.given(0, 0, 0, 0);
        watch.start();
        watch.go(1);
        Bench.due("look before it is tired", watch.look(), 1);
        reached(watch, 0, 1, 3, 1, 10, 1);
        watch.any(0);
        Bench.due("look", watch.look(), StrideWatch.NONE);
        for (int address = 0; address < 135; address++) {
            Bench.due("reached " + address + " when it is tired", watch.reached(address), 0);
        }
        Bench.state("set when it is tired", () -> watch.set(0, 0, 0));
        Bench.due("has when it is tired", watch.has(0, 0, 0), false);
        Bench.due("at when it is tired", watch.at(), 3);
        Bench.due("value when it is tired", watch.value(0), 7);
    }

    /** What is TIRED once is not so for ever, and what is given stays. */
    private static void tiredAgain() {
        StrideWatch watch = Bench.fed(chain(60));
        watch.given(1, 5, 5, 0);
        for (int i = 0; i < 3; i++) {
            Bench.due("look when it is tired", watch.look(), StrideWatch.NONE);
        }
        watch.given(0, 0, 0, 0);
        Bench.due("look when it is not tired", watch.look(), 1);
        reached(watch, 0, 1, 3, 1, 5, 0, 10, 1, 11, 0, 129, 0);
        Bench.due("what was given", Bench.setAt(watch, 10, 1), "5");
    }

    /** What was still to be gone through when it was TIRED is not gone through later. */
    private static void tiredWithPointsLeft() {
        for (int many : new int[] {61, 62, 70, 90}) {
            StrideWatch watch = Bench.fed(chain(many));
            Bench.due("look at a chain of " + many, watch.look(), StrideWatch.NONE);
            watch.given(0, 0, 0, 0);
            Bench.due("look along one edge", watch.look(), 1);
            reached(watch, 0, 1, 3, 1, 5, 0, 10, 1);
            for (int address = 11; address < 11 + 2 * many; address++) {
                Bench.due("reached " + address, watch.reached(address), 0);
            }
            watch.any(0);
            Bench.due("look at a chain of " + many + " again", watch.look(), StrideWatch.NONE);
            int length = watch.erase();
            Bench.due("bytes of a chain of " + many, length, 11 + 2 * many);
            Bench.feed(watch, "C3" + Bench.nops(length - 1));
            Bench.due("look at other bytes", watch.look(), 1);
            reached(watch, 0, 1, 10, 0, 11, 0, 13, 0, 2 * many - 50, 0);
        }
    }

    /** "0 if nothing came to it (as to an address outside of the CODE)" */
    private static void reachedWhereNothingCame() {
        StrideWatch watch = Bench.fed("48 FF C0 C3 90");
        watch.look();
        reached(watch, 0, 1, 1, 0, 2, 0, 3, 1, 4, 0, 5, 0, 6, 0, 199, 0);
        for (int address : FAR) {
            reached(watch, address, 0);
        }
        StrideWatch full = Bench.fed(Bench.nops(200));
        full.look();
        reached(full, 198, 1, 199, 1);
        for (int address : FAR) {
            reached(full, address, 0);
        }
    }

    /** "or nothing is looked at" */
    private static void reachedBeforeLooking() {
        StrideWatch watch = Bench.fed("90 C3");
        reached(watch, 0, 0, 1, 0);
        for (int address : FAR) {
            reached(watch, address, 0);
        }
        watch.start();
        watch.go(1);
        reached(watch, 0, 0, 1, 0);
    }

    /** "what = 0 l, 1 u, 2 s; of ANY s is -1, l and u 0" */
    private static void theThreeNumbersOfASet() {
        StrideWatch watch = Bench.fed("90 C3");
        Bench.give(watch, "0:-7 5 12", "15:-7", "16:" + -B + " " + B + " " + 2 * B, "22:0");
        watch.look();
        long[][] rows = {{0, -7, 5, 12}, {15, -7, -7, 0}, {16, -B, B, 2 * B}, {22, 0, 0, 0}, {23, 0, 0, -1}};
        for (long[] row : rows) {
            for (int what = 0; what <= 2; what++) {
                Bench.due("set of " + row[0] + ", " + what, watch.set(0, (int) row[0], what), row[1 + what]);
                Bench.due("set behind of " + row[0] + ", " + what, watch.set(1, (int) row[0], what), row[1 + what]);
            }
        }
    }

    /** "IllegalState: nothing came to it (also outside of the CODE)." */
    private static void setWhereNothingCame() {
        StrideWatch watch = Bench.fed("48 FF C0 C3 90");
        Bench.state("set before looking", () -> watch.set(0, 0, 0));
        watch.look();
        for (int address : new int[] {1, 2, 4, 5, 6, 199}) {
            Bench.state("set at " + address, () -> watch.set(address, 0, 0));
        }
        for (int address : FAR) {
            Bench.state("set at " + address, () -> watch.set(address, 23, 2));
        }
        Bench.due("set at 3", watch.set(3, 0, 2), -1);
    }

    /** "IllegalArgument (not of the address).": also where nothing came to. */
    private static void numbersThatAreNoneOfSet() {
        StrideWatch watch = Bench.fed("90 C3");
        for (int looked = 0; looked <= 1; looked++) {
            for (int address : new int[] {0, 1, 2, -1, 200, Integer.MIN_VALUE, Integer.MAX_VALUE}) {
                for (int wrong : new int[] {-1, 24, Integer.MIN_VALUE, Integer.MAX_VALUE}) {
                    Bench.argument("set at " + address + " of location " + wrong, () -> watch.set(address, wrong, 0));
                }
                for (int wrong : new int[] {-1, 3, Integer.MIN_VALUE, Integer.MAX_VALUE}) {
                    Bench.argument("set at " + address + " of " + wrong, () -> watch.set(address, 23, wrong));
                }
            }
            watch.look();
        }
        Bench.due("set of 0, 0", watch.set(0, 0, 0), 0);
        Bench.due("set of 23, 2", watch.set(1, 23, 2), -1);
    }

    /** "Whether a POINT's SET of a LOCATION has a number": at its bounds, between its steps, beyond. */
    private static void hasAtTheBounds() {
        long[][] sets = {{-7, 5, 12}, {-7, 5, 3}, {-7, -7, 0}, {0, 0, 0}, {B, B, 0}, {-B, -B, 0}, {-B, B, 2 * B}, {-B, B, B}, {-B, B, 1},
            {1 - B, B - 1, 2 * B - 2}};
        for (long[] set : sets) {
            StrideWatch watch = Bench.fed("90");
            watch.given(23, set[0], set[1], set[2]);
            watch.look();
            for (long from : new long[] {set[0], set[1], 0, set[0] + set[2], set[1] - set[2], Long.MIN_VALUE + 1, Long.MAX_VALUE - 1}) {
                for (long number = from - 1; number <= from + 1 && number >= from - 1; number++) {
                    boolean want = number >= set[0] && number <= set[1] && (set[2] == 0 || (number - set[0]) % set[2] == 0);
                    Bench.due(set[0] + " " + set[1] + " " + set[2] + " has " + number, watch.has(0, 23, number), want);
                    if (number == Long.MAX_VALUE) {
                        break;
                    }
                }
            }
        }
    }

    /** "ANY (all numbers)" */
    private static void hasOfAny() {
        StrideWatch watch = Bench.fed("90");
        watch.look();
        for (long number : new long[] {0, 1, -1, B, -B, B + 1, -B - 1, Long.MIN_VALUE, Long.MAX_VALUE}) {
            Bench.due("any has " + number, watch.has(0, 0, number), true);
        }
    }

    /** "false if nothing came to it (also outside of the CODE)" */
    private static void hasWhereNothingCame() {
        StrideWatch watch = Bench.fed("48 FF C0 C3 90");
        Bench.due("has before looking", watch.has(0, 0, 0), false);
        watch.look();
        for (int address : new int[] {1, 2, 4, 5, 6, 199}) {
            Bench.due("has at " + address, watch.has(address, 0, 0), false);
        }
        for (int address : FAR) {
            Bench.due("has at " + address, watch.has(address, 0, 0), false);
        }
        Bench.due("has at 3", watch.has(3, 0, 0), true);
    }

    /** "IllegalArgument: no such LOCATION.": also where nothing came to. */
    private static void numbersThatAreNoneOfHas() {
        StrideWatch watch = Bench.fed("90 C3");
        for (int looked = 0; looked <= 1; looked++) {
            for (int address : new int[] {0, 1, 2, -1, 200, Integer.MIN_VALUE, Integer.MAX_VALUE}) {
                for (int wrong : new int[] {-1, 24, Integer.MIN_VALUE, Integer.MAX_VALUE}) {
                    Bench.argument("has at " + address + " of location " + wrong, () -> watch.has(address, wrong, 0));
                }
            }
            watch.look();
        }
        Bench.due("has of 23", watch.has(1, 23, 0), true);
    }

    /** What was found before is no part of what is looked at anew. */
    private static void lookingAnew() {
        StrideWatch watch = Bench.fed("48 85 C0 74 04 48 FF C1 C3 C3");
        Bench.give(watch, "0:any", "1:0");
        Bench.due("look along both edges", watch.look(), 1);
        reached(watch, 5, 1, 8, 1, 9, 1);
        watch.given(0, 0, 0, 0);
        watch.given(1, 7, 7, 0);
        Bench.due("look along one edge", watch.look(), 1);
        reached(watch, 0, 1, 3, 1, 5, 0, 8, 0, 9, 1);
        Bench.due("what is given now", Bench.setAt(watch, 9, 1), "7");
        Bench.state("set where something came before", () -> watch.set(5, 0, 0));
    }
}
