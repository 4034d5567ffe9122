/** Promises 8 and 9: look and reached. */
public final class LookTest {
    private static final long B = 1L << 61;

    public static void main(String[] args) {
        withoutCode();
        straightOn();
        edgesThatAreNone();
        edgesOfJumps();
        joins();
        wideningUp();
        wideningDown();
        wideningInSteps();
        wideningToAny();
        wideningOnlyWhereItGoesBack();
        sixtyRoundsAreTheMost();
        tiredAtTheFirstPoint();
        tiredForgets();
        lookingAgain();
        Bench.end();
    }

    private static void reached(StrideWatch watch, int... pairs) {
        for (int i = 0; i < pairs.length; i += 2) {
            Bench.due("reached " + pairs[i], watch.reached(pairs[i]), pairs[i + 1]);
        }
    }

    private static void withoutCode() {
        StrideWatch watch = new StrideWatch();
        Bench.due("look without code", watch.look(), 0);
        reached(watch, 0, 0, -1, 0, 200, 0);
        Bench.state("set without code", () -> watch.set(0, 0, 0));
        Bench.due("has without code", watch.has(0, 0, 0), false);
    }

    private static void straightOn() {
        StrideWatch watch = Bench.fed("90 48 FF C0 90 C3 90");
        Bench.due("nothing before look", watch.reached(0), 0);
        Bench.due("look straight on", watch.look(), 1);
        reached(watch, 0, 1, 1, 1, 2, 0, 3, 0, 4, 1, 5, 1, 6, 0, 7, 0, -1, 0);
        reached(watch, Integer.MIN_VALUE, 0, Integer.MAX_VALUE, 0, 200, 0, 199, 0);
    }

    private static void edgesThatAreNone() {
        for (String end : new String[] {"C3", "F4", "06", "EB 10", "EB F0", "E9 FF FF FF 7F", "E9 00 00 00 80"}) {
            StrideWatch watch = Bench.fed(end + " 90");
            Bench.due("look at " + end, watch.look(), 1);
            reached(watch, 0, 1, Bench.bytes(end).length, 0);
        }
        StrideWatch last = Bench.fed("90");
        Bench.due("look at an end without END", last.look(), 1);
        reached(last, 0, 1, 1, 0);
        StrideWatch cut = Bench.fed("48 01");
        Bench.due("look at an instruction cut off", cut.look(), 1);
        reached(cut, 0, 1, 1, 0);
    }

    private static void edgesOfJumps() {
        StrideWatch watch = Bench.fed("EB 01 90 74 01 90 C3");
        Bench.due("look at jumps", watch.look(), 1);
        reached(watch, 2, 0, 3, 1, 5, 1, 6, 1);
        StrideWatch itself = Bench.fed("EB FE");
        Bench.due("look at a jump to itself", itself.look(), 1);
        reached(itself, 0, 1);
        StrideWatch inside = Bench.fed("EB 01 48 01 C8 C3");
        inside.given(0, TWO_32, TWO_32, 0);
        inside.given(1, 1, 1, 0);
        Bench.due("look at a jump into an instruction", inside.look(), 1);
        Bench.due("the instruction there", Bench.setAt(inside, 5, 0), "1");
    }

    private static final long TWO_32 = 1L << 32;

    private static void joins() {
        // Location 0 comes as [3] and as [10], location 2 as what it was.
        StrideWatch watch = Bench.fed("48 85 D2 74 07 B8 03 00 00 00 EB 05 B8 0A 00 00 00 C3");
        Bench.give(watch, "2:0 12 3");
        Bench.due("look at two ways", watch.look(), 1);
        Bench.due("a join", Bench.setAt(watch, 17, 0), "3 10 7");
        Bench.due("a join of what was cut", Bench.setAt(watch, 17, 2), "0 12 3");
        reached(watch, 17, 2);
        StrideWatch any = Bench.fed("48 85 D2 74 05 B8 03 00 00 00 C3");
        any.look();
        Bench.due("a join with any", Bench.setAt(any, 10, 0), "any");
        // The second way brings nothing new: 5 is in 0 .. 10 with step 5.
        StrideWatch same = Bench.fed("48 85 D2 74 05 B8 05 00 00 00 C3");
        Bench.give(same, "0:0 10 5", "2:any");
        same.look();
        Bench.due("a join with less", Bench.setAt(same, 10, 0), "0 10 5");
    }

    private static void wideningUp() {
        StrideWatch watch = Bench.fed("31 C9 48 83 F9 28 7D 06 48 83 C1 04 EB F4 C3");
        Bench.due("rounds of a loop upwards", watch.look(), 4);
        reached(watch, 0, 1, 2, 4, 6, 4, 8, 4, 12, 4, 14, 1);
        Bench.due("at the head", Bench.setAt(watch, 2, 1), "0 " + B + " 4");
        Bench.due("in the loop", Bench.setAt(watch, 8, 1), "0 36 4");
        Bench.due("behind the step", Bench.setAt(watch, 12, 1), "4 40 4");
        Bench.due("behind the loop", Bench.setAt(watch, 14, 1), "40 " + B + " 4");
    }

    private static void wideningDown() {
        StrideWatch watch = Bench.fed("31 C9 48 83 F9 D8 7E 06 48 83 E9 03 EB F4 C3");
        Bench.due("rounds of a loop downwards", watch.look(), 4);
        Bench.due("at the head", Bench.setAt(watch, 2, 1), -B + 2 + " 0 3");
        Bench.due("in the loop", Bench.setAt(watch, 8, 1), "-39 0 3");
        Bench.due("behind the loop", Bench.setAt(watch, 14, 1), -B + 2 + " -42 3");
    }

    private static void wideningInSteps() {
        StrideWatch ones = Bench.fed("31 C9 48 83 F9 28 7D 05 48 FF C1 EB F5 C3");
        Bench.due("rounds of a loop by ones", ones.look(), 4);
        Bench.due("at the head of a loop by ones", Bench.setAt(ones, 2, 1), "0 " + B + " 1");
        Bench.due("in a loop by ones", Bench.setAt(ones, 8, 1), "0 39 1");
        Bench.due("behind a loop by ones", Bench.setAt(ones, 13, 1), "40 " + B + " 1");
        StrideWatch watch = Bench.fed("B9 02 00 00 00 48 83 F9 28 7D 06 48 83 C1 07 EB F4 C3");
        Bench.due("rounds of a loop by sevens", watch.look(), 4);
        // B is 2 more than a multiple of 7, as 2 ^ 3 is 1 more, so that the widest bound is B itself.
        Bench.due("at the head of a loop by sevens", Bench.setAt(watch, 5, 1), "2 " + B + " 7");
        StrideWatch other = Bench.fed("B9 01 00 00 00 48 83 F9 28 7D 06 48 83 C1 07 EB F4 C3");
        other.look();
        Bench.due("at the head of another one", Bench.setAt(other, 5, 1), "1 " + (B - 1) + " 7");
        Bench.due("behind another one", Bench.setAt(other, 17, 1), "43 " + (B - 1) + " 7");
    }

    private static void wideningToAny() {
        StrideWatch watch = Bench.fed("31 C9 48 83 C1 04 48 83 F9 28 7C F6 C3");
        Bench.due("rounds of a loop that comes to any", watch.look(), 5);
        reached(watch, 0, 1, 2, 5, 6, 4, 10, 4, 12, 1);
        Bench.due("what was widened too far", Bench.setAt(watch, 12, 1), "any");
    }

    private static void wideningOnlyWhereItGoesBack() {
        // Five ways lead forward to one point: it has got something more than three times, and is not widened.
        StringBuilder hex = new StringBuilder();
        for (int i = 1; i <= 5; i++) {
            hex.append("B8 0").append(i).append(" 00 00 00 74 ").append(String.format("%02X ", 7 * (5 - i) + 1));
        }
        StrideWatch watch = Bench.fed(hex + "C3 C3");
        Bench.due("look at five ways", watch.look(), 1);
        reached(watch, 35, 1, 36, 5);
        Bench.due("five ways to one point", Bench.setAt(watch, 36, 0), "1 5 1");
    }

    /** A jump to the last of so many jumps, each of which goes back to the one before. */
    private static String chain(int many) {
        StringBuilder hex = new StringBuilder("48 85 C0 74 05 E9 ");
        hex.append(String.format("%02X", 1 + 2 * (many - 1))).append(" 00 00 00 C3 EB FD");
        for (int i = 1; i < many; i++) {
            hex.append(" EB FC");
        }
        return hex.toString();
    }

    private static void sixtyRoundsAreTheMost() {
        Bench.due("a chain of 3", Bench.fed(chain(3)).look(), 4);
        StrideWatch most = Bench.fed(chain(59));
        Bench.due("a chain of 59", most.look(), 60);
        reached(most, 0, 1, 10, 2, 11, 1);
        StrideWatch tired = Bench.fed(chain(60));
        Bench.due("a chain of 60", tired.look(), StrideWatch.NONE);
        reached(tired, 0, 0, 10, 0, 13, 0);
        Bench.state("set when it is tired", () -> tired.set(0, 0, 0));
        Bench.due("has when it is tired", tired.has(0, 0, 0), false);
    }

    private static void tiredAtTheFirstPoint() {
        StringBuilder hex = new StringBuilder("E9 79 00 00 00 48 FF C3 EB F6 EB F9");
        for (int i = 1; i < 59; i++) {
            hex.append(" EB FC");
        }
        StrideWatch watch = Bench.fed(hex.toString());
        watch.given(3, 0, 0, 0);
        Bench.due("when only point 0 is left", watch.look(), StrideWatch.NONE);
    }

    private static void tiredForgets() {
        StrideWatch watch = Bench.fed(chain(60));
        watch.given(0, 0, 0, 0);
        watch.start();
        Bench.due("look along the short way", watch.look(), 1);
        reached(watch, 0, 1, 5, 0, 10, 1);
        watch.any(0);
        Bench.due("look along the long way", watch.look(), StrideWatch.NONE);
        reached(watch, 0, 0, 10, 0);
        Bench.due("the run when it is tired", watch.at(), 0);
        watch.given(0, 0, 0, 0);
        Bench.due("look along the short way again", watch.look(), 1);
        reached(watch, 0, 1, 5, 0, 10, 1);
    }

    private static void lookingAgain() {
        StrideWatch watch = Bench.fed("31 C9 48 83 F9 28 7D 06 48 83 C1 04 EB F4 C3");
        for (int i = 0; i < 3; i++) {
            Bench.due("look " + i, watch.look(), 4);
            reached(watch, 0, 1, 2, 4, 14, 1);
        }
        StrideWatch changing = Bench.fed("48 85 C0 74 01 C3 C3");
        changing.given(0, 0, 0, 0);
        changing.look();
        reached(changing, 5, 0, 6, 1);
        changing.given(0, 1, 1, 0);
        changing.look();
        reached(changing, 5, 1, 6, 0);
    }
}
