/** Edges of SETS, and of promises 4 and 5; each method has one sentence of the document. */
public final class SetEdgesTest {
    private static final long B = 1L << 61;
    private static final long TWO_30 = 1L << 30;
    private static final long TWO_31 = 1L << 31;
    private static final long TWO_32 = 1L << 32;

    public static void main(String[] args) {
        boundsAreAtMostB();
        lowIsAtMostHigh();
        stepIsZeroJustForOneNumber();
        stepsLeadFromLowToHigh();
        givenCountsWhenItIsLookedNext();
        anyCountsWhenItIsLookedNext();
        largerBoundsAreAny();
        oneNumberHasNoStep();
        gcdWithZero();
        joins();
        joinsWithNone();
        widensUpwards();
        widensDownwards();
        widensOnlyWhatMoves();
        widensFromTheThirdTimeOn();
        widensBehindEdgesForward();
        sums();
        negatives();
        differences();
        complements();
        leftShiftsUpToThirty();
        productsUpToTwoToTheThirty();
        productsWithZero();
        productsOfEachSign();
        stepsOfProducts();
        andOfNumbers();
        andWithTheLeastBound();
        orAndXorOfNumbers();
        orAndXorUpToAllOnes();
        signedShifts();
        signedShiftsOfAny();
        unsignedShifts();
        lowHalves();
        signedHalves();
        halfWidthIsOfLow();
        halfWidthIsOfSign();
        ofALocationWithItself();
        constantsThatAreTooLarge();
        anyHasNoBounds();
        Bench.end();
    }

    /** Location 0 holds the set a, location 1 the set b: what location 0 holds behind the code. */
    private static void is(String hex, String a, String b, String want) {
        Bench.due(hex + " of " + a + ", " + b, Bench.behind(hex, "0:" + a, "1:" + b), want);
    }

    private static void is(String hex, String a, String want) {
        is(hex, a, "7", want);
    }

    private static String triple(long low, long high, long step) {
        return low + " " + high + " " + step;
    }

    private static void taken(long low, long high, long step) {
        for (int location : new int[] {0, 15, 16, 23}) {
            StrideWatch watch = Bench.fed("90");
            watch.given(location, low, high, step);
            watch.look();
            Bench.due("l given", watch.set(0, location, 0), low);
            Bench.due("u given", watch.set(0, location, 1), high);
            Bench.due("s given", watch.set(0, location, 2), step);
        }
    }

    private static void refused(long low, long high, long step) {
        StrideWatch watch = Bench.fed("90");
        watch.given(0, 3, 9, 3);
        Bench.argument("given " + triple(low, high, step), () -> watch.given(0, low, high, step));
        watch.look();
        Bench.due("the set behind given " + triple(low, high, step), Bench.setAt(watch, 0, 0), "3 9 3");
    }

    /** "|l|, |u| are at most B = 2^61" */
    private static void boundsAreAtMostB() {
        taken(B, B, 0);
        taken(-B, -B, 0);
        taken(-B, B, 1);
        taken(-B, B, 2 * B);
        refused(B + 1, B + 1, 0);
        refused(-B - 1, -B - 1, 0);
        refused(0, B + 1, B + 1);
        refused(-B - 1, 0, B + 1);
        refused(-B, B + 1, 1);
        refused(-B - 1, B, 1);
        refused(Long.MAX_VALUE, Long.MAX_VALUE, 0);
        refused(Long.MIN_VALUE, Long.MIN_VALUE, 0);
        refused(Long.MIN_VALUE, Long.MAX_VALUE, 1);
        // Here high - low is no number of 64 bits.
        refused(Long.MIN_VALUE, Long.MAX_VALUE, -1);
        refused(Long.MIN_VALUE, 0, Long.MIN_VALUE);
        refused(-B, Long.MAX_VALUE, 1);
        refused(Long.MIN_VALUE, B, 1);
    }

    /** "l <= u" */
    private static void lowIsAtMostHigh() {
        taken(0, 1, 1);
        taken(0, 0, 0);
        refused(1, 0, 1);
        refused(1, 0, -1);
        refused(1, 0, 0);
        refused(B, -B, 2 * B);
        refused(B, -B, -2 * B);
        refused(Long.MAX_VALUE, Long.MIN_VALUE, 1);
    }

    /** "s being 0 just where l = u" */
    private static void stepIsZeroJustForOneNumber() {
        taken(5, 5, 0);
        refused(5, 5, 1);
        refused(5, 5, -1);
        refused(0, 0, -1);
        refused(0, 0, -2);
        refused(0, 0, Long.MIN_VALUE);
        refused(5, 6, 0);
        refused(-B, B, 0);
    }

    /** "l, l + s, .. u" */
    private static void stepsLeadFromLowToHigh() {
        taken(-7, 5, 12);
        taken(-7, 5, 6);
        taken(-7, 5, 1);
        refused(-7, 5, 5);
        refused(-7, 5, 7);
        refused(-7, 5, 11);
        refused(-7, 5, 13);
        refused(-7, 5, 24);
        refused(-7, 5, -1);
        refused(-7, 5, -12);
        refused(-7, 5, Long.MIN_VALUE);
        refused(-7, 5, Long.MAX_VALUE);
        refused(-B, B, 2 * B - 1);
        refused(-B, B, 2 * B + 1);
        refused(-B, B, 4 * B);
        taken(-B, B, B);
    }

    /** Promise 4: "when it is looked next (what was looked at stays as it is)" */
    private static void givenCountsWhenItIsLookedNext() {
        StrideWatch watch = Bench.fed("90");
        watch.look();
        watch.given(23, 1, 1, 0);
        Bench.due("what was looked at before given", Bench.setAt(watch, 0, 23), "any");
        Bench.due("reached behind given", watch.reached(0), 1);
        watch.given(23, 2, 4, 2);
        watch.look();
        Bench.due("what was given last", Bench.setAt(watch, 0, 23), "2 4 2");
        watch.look();
        Bench.due("what was given, looked at again", Bench.setAt(watch, 0, 23), "2 4 2");
        for (int location : new int[] {-1, 24, Integer.MIN_VALUE, Integer.MAX_VALUE}) {
            Bench.argument("given to " + location, () -> watch.given(location, 1, 1, 0));
        }
    }

    /** Promise 5: "likewise" */
    private static void anyCountsWhenItIsLookedNext() {
        StrideWatch watch = Bench.fed("90");
        watch.given(0, 1, 1, 0);
        watch.given(23, 2, 2, 0);
        watch.look();
        watch.any(0);
        watch.any(23);
        Bench.due("what was looked at before any", Bench.setAt(watch, 0, 0) + Bench.setAt(watch, 0, 23), "12");
        Bench.due("reached behind any", watch.reached(0), 1);
        watch.look();
        Bench.due("looked at behind any", Bench.setAt(watch, 0, 0) + Bench.setAt(watch, 0, 23), "anyany");
        for (int location : new int[] {-1, 24, Integer.MIN_VALUE, Integer.MAX_VALUE}) {
            Bench.argument("any of " + location, () -> watch.any(location));
        }
    }

    /** "What is told below as such a triple with a bound that is larger is ANY": one such bound is enough. */
    private static void largerBoundsAreAny() {
        is("48 83 C0 01", "" + (B - 1), "" + B);
        is("48 83 C0 01", "" + B, "any");
        is("48 83 C0 01", triple(0, B, B), "any");
        is("48 83 C0 FF", "" + (1 - B), "-" + B);
        is("48 83 C0 FF", "-" + B, "any");
        is("48 83 C0 FF", triple(-B, 0, B), "any");
        is("48 FF C0", triple(-B, B - 1, 1), triple(1 - B, B, 1));
        is("48 FF C0", triple(-B, B, 1), "any");
        is("48 FF C8", triple(1 - B, B, 1), triple(-B, B - 1, 1));
        is("48 FF C8", triple(-B, B, 1), "any");
    }

    /** "what has l = u has s = 0" */
    private static void oneNumberHasNoStep() {
        is("48 C1 F8 04", "0 8 8", "0");
        is("48 C1 F8 03", "0 7 1", "0");
        is("48 C1 E8 04", "8 15 7", "0");
        is("48 21 C8", "any", "0", "0");
        is("48 09 C8", "0 1 1", "1", "1");
        is("89 C8", "5", "0 " + TWO_32 + " " + TWO_32, "0");
        is("48 0F AF C1", "-3 3 6", "0", "0");
    }

    /** "gcd(0, x) is x" */
    private static void gcdWithZero() {
        is("48 01 C8", "1 7 6", "5", "6 12 6");
        is("48 01 C8", "5", "1 7 6", "6 12 6");
        is("48 29 C8", "5", "1 7 6", "-2 4 6");
        is("48 01 C8", "5", "6", "11");
        joined("5", "11", "5 11 6");
        joined("5", "5 11 6", "5 11 6");
    }

    /** Location 0 comes with a along one edge and then with b along another one. */
    private static String join(String a, String b, String between) {
        StrideWatch watch = Bench.fed("48 85 D2 74 03 48 89 C8 C3");
        Bench.give(watch, "0:" + a, "1:" + b, "2:" + between);
        watch.look();
        return Bench.setAt(watch, 8, 0);
    }

    private static void joined(String a, String b, String want) {
        Bench.due("join of " + a + ", " + b, join(a, b, "any"), want);
        Bench.due("join of " + b + ", " + a, join(b, a, "any"), want);
    }

    /** "JOIN: (min l, max u, gcd(s, s', |l - l'|)); .. ANY with ANY" */
    private static void joins() {
        joined("5", "5", "5");
        joined("5", "9", "5 9 4");
        joined("-5", "9", "-5 9 14");
        joined("0 8 4", "2", "0 8 2");
        joined("0 8 4", "8", "0 8 4");
        joined("0 8 4", "12", "0 12 4");
        joined("0 8 4", "-3", "-3 8 1");
        joined("0 6 6", "3 15 12", "0 15 3");
        joined("0 12 4", "0 12 6", "0 12 2");
        joined("any", "5", "any");
        joined("any", "any", "any");
        joined("any", triple(-B, B, 1), "any");
        joined("" + B, "-" + B, triple(-B, B, 2 * B));
        joined(triple(-B, B, 2 * B), "0", triple(-B, B, B));
        joined(triple(-B, B, 2 * B), "1", triple(-B, B, 1));
    }

    /** "with NONE the other one": an edge that is not gone along brings nothing. */
    private static void joinsWithNone() {
        Bench.due("only along the jump", join("5", "9", "0"), "5");
        Bench.due("only behind it", join("5", "9", "1"), "9");
        Bench.due("along both", join("5", "9", "0 1 1"), "5 9 4");
    }

    /**
     * POINT 0 has got a three times when b comes to it, as location 3 counts from 0 up to before.
     * It is WIDENED then, if the edge goes back; with a lower count it has got something twice, and is joined.
     */
    private static String widen(String a, String b, int before) {
        StrideWatch watch = Bench.fed("48 83 FB" + Bench.hex(before) + "7C 03 48 89 C8 48 FF C3 EB F2");
        Bench.give(watch, "0:" + a, "1:" + b, "3:0");
        watch.look();
        return Bench.setAt(watch, 0, 0);
    }

    private static void widened(String a, String b, String want) {
        Bench.due("widened " + a + " by " + b, widen(a, b, 2), want);
    }

    /** "its u, if greater, likewise the greatest up to B" */
    private static void widensUpwards() {
        widened("0", "1", triple(0, B, 1));
        widened("0", "4", triple(0, B, 4));
        // B is 2 more than a multiple of 3.
        widened("0", "3", triple(0, B - 2, 3));
        widened("1", "4", triple(1, B - 1, 3));
        widened("2", "5", triple(2, B, 3));
        widened("-4", "-1", triple(-4, B, 3));
        widened("0", "" + B, triple(0, B, B));
        widened("0", "" + (B - 1), triple(0, B - 1, B - 1));
        widened("-" + B, "" + (B - 1), triple(-B, B - 1, 2 * B - 1));
        widened("0 8 4", "10", triple(0, B, 2));
        widened("0", "any", "any");
        widened("5", "any", "any");
        widened("-5", "any", "any");
        widened("-7 5 12", "any", "any");
    }

    /** "its l, if it is less than a's, is the least number from - B on that is l and a multiple of s" */
    private static void widensDownwards() {
        widened("0", "-1", triple(-B, 0, 1));
        widened("0", "-4", triple(-B, 0, 4));
        widened("0", "-3", triple(2 - B, 0, 3));
        widened("1", "-2", triple(-B, 1, 3));
        widened("2", "-1", triple(1 - B, 2, 3));
        widened("4", "1", triple(-B, 4, 3));
        widened("" + B, "" + (B - 1), triple(-B, B, 1));
        widened("" + B, "-" + B, triple(-B, B, 2 * B));
        widened("0 8 4", "-2", triple(-B, 8, 2));
        widened("0", "-5 5 5", triple(2 - B, B - 2, 5));
    }

    /** "WIDENED a by b: the JOIN, but ..": a bound that does not move stays, though the step does. */
    private static void widensOnlyWhatMoves() {
        widened("0 8 4", "2", "0 8 2");
        widened("0 8 4", "3", "0 8 1");
        widened("0 8 4", "4", "0 8 4");
        widened("0 8 4", "0 8 8", "0 8 4");
        widened("0 8 8", "0 8 4", "0 8 4");
        widened("5", "5", "5");
        widened("any", "5", "any");
    }

    /** "and the POINT there has got something at least three times" */
    private static void widensFromTheThirdTimeOn() {
        Bench.due("b when the point has got something once", widen("0", "4", 0), "0 4 4");
        Bench.due("b when the point has got something twice", widen("0", "4", 1), "0 4 4");
        Bench.due("b when the point has got something three times", widen("0", "4", 2), triple(0, B, 4));
        Bench.due("b downwards, twice", widen("0", "-4", 1), "-4 0 4");
        Bench.due("b downwards, three times", widen("0", "-4", 2), triple(-B, 0, 4));
    }

    /** It counts how often the POINT got something, not along which edges: here three times forward, then once back. */
    private static void widensBehindEdgesForward() {
        String[][] rows = {{"5", "9", triple(5, B - 3, 4)}, {"5", "1", triple(1 - B, 5, 4)},
            {"5", "any", "any"}, {"-5", "any", "any"}, {"-7 5 12", "any", "any"}, {"any", "5", "any"}};
        for (String[] row : rows) {
            StrideWatch watch = Bench.fed("BB 01 00 00 00 70 0C BB 02 00 00 00 70 05 BB 03 00 00 00 48 89 C8 EB FB");
            Bench.give(watch, "0:" + row[0], "1:" + row[1]);
            boolean changes = !row[0].equals("any");
            Bench.due("look at " + row[0] + " by " + row[1], watch.look(), changes ? 2 : 1);
            Bench.due("reached the head", watch.reached(19), changes ? 4 : 3);
            Bench.due(row[0] + " widened by " + row[1], Bench.setAt(watch, 19, 0), row[2]);
            Bench.due("what comes forward", Bench.setAt(watch, 19, 3), "1 3 1");
        }
    }

    /** "ADD: (l + l', u + u', gcd(s, s')) .. ANY with ANY" */
    private static void sums() {
        String add = "48 01 C8";
        is(add, "" + B, "-" + B, "0");
        is(add, "" + B, "0", "" + B);
        is(add, "" + B, "" + B, "any");
        is(add, "-" + B, "-" + B, "any");
        is(add, triple(-B, B, 2 * B), triple(-B, B, 2 * B), "any");
        is(add, triple(-B, 0, B), triple(0, B, B), triple(-B, B, B));
        is(add, triple(0, B, B), triple(-B, 0, B), triple(-B, B, B));
        is(add, "0 12 4", "0 18 6", "0 30 2");
        is(add, "any", "0", "any");
        is(add, "0", "any", "any");
        is(add, "any", "any", "any");
    }

    /** "NEG: (-u, -l, s)" */
    private static void negatives() {
        is("48 F7 D8", "-" + B, "" + B);
        is("48 F7 D8", "" + B, "-" + B);
        is("48 F7 D8", "0", "0");
        is("48 F7 D8", triple(-B, B - 2, 2), triple(2 - B, B, 2));
        is("48 F7 D8", triple(-B, B, 2 * B), triple(-B, B, 2 * B));
        is("48 F7 D8", "any", "any");
    }

    /** "SUB: ADD of NEG" */
    private static void differences() {
        String sub = "48 29 C8";
        is(sub, "" + B, "" + B, "0");
        is(sub, "-" + B, "-" + B, "0");
        is(sub, "-" + B, "" + B, "any");
        is(sub, "" + B, "-" + B, "any");
        is(sub, "-" + B, "0", "-" + B);
        is(sub, "-" + B, "1", "any");
        is(sub, "" + B, "-1", "any");
        is(sub, "0", "-" + B, "" + B);
        is(sub, "0", "" + B, "-" + B);
        is(sub, "0 12 4", "0 18 6", "-18 12 2");
        is(sub, triple(0, B, B), triple(0, B, B), triple(-B, B, B));
        is(sub, "any", "0", "any");
        is(sub, "0", "any", "any");
    }

    /** "NOT: [-1] SUB it." */
    private static void complements() {
        is("48 F7 D0", "-" + B, "" + (B - 1));
        is("48 F7 D0", "" + (B - 1), "-" + B);
        is("48 F7 D0", "" + B, "any");
        is("48 F7 D0", triple(-B, B, 2 * B), "any");
        is("48 F7 D0", triple(-B, B - 1, 1), triple(-B, B - 1, 1));
        is("48 F7 D0", "0", "-1");
        is("48 F7 D0", "-1", "0");
        is("48 F7 D0", "any", "any");
    }

    /** "SHL by k: IMUL with [2^k] for k up to 30, else ANY." */
    private static void leftShiftsUpToThirty() {
        is("48 C1 E0 1E", "1", "" + TWO_30);
        is("48 C1 E0 1E", "-1", "-" + TWO_30);
        is("48 C1 E0 1E", triple(-TWO_30, TWO_30, TWO_31), triple(-(1L << 60), 1L << 60, B));
        is("48 C1 E0 1F", "1", "any");
        is("48 C1 E0 1F", "0", "any");
        is("48 C1 E0 3F", "0", "any");
        is("48 C1 E0 3F", "1", "any");
        is("48 C1 E0 5E", "1", "" + TWO_30);
        is("48 C1 E0 5F", "1", "any");
        is("48 C1 E0 01", "" + TWO_30, "" + TWO_31);
        is("48 C1 E0 01", "" + (TWO_30 + 1), "any");
        is("48 C1 E0 01", "" + (-TWO_30 - 1), "any");
        is("48 C1 E0 00", "" + TWO_30, "" + TWO_30);
        is("48 C1 E0 00", "" + (TWO_30 + 1), "any");
        is("48 C1 E0 40", "-5 5 10", "-5 5 10");
        is("48 C1 E0 1E", "any", "any");
    }

    /** "ANY with ANY, or if a bound is above 2^30 in size" */
    private static void productsUpToTwoToTheThirty() {
        String mul = "48 0F AF C1";
        is(mul, "" + TWO_30, "" + TWO_30, "" + (1L << 60));
        is(mul, "-" + TWO_30, "" + TWO_30, "-" + (1L << 60));
        is(mul, "-" + TWO_30, "-" + TWO_30, "" + (1L << 60));
        for (long large : new long[] {TWO_30 + 1, -TWO_30 - 1, B, -B}) {
            is(mul, "" + large, "1", "any");
            is(mul, "1", "" + large, "any");
            is(mul, large < 0 ? triple(large, 0, -large) : triple(0, large, large), "1", "any");
            is(mul, "1", large < 0 ? triple(large, 0, -large) : triple(0, large, large), "any");
        }
        is(mul, triple(-TWO_30, TWO_30, TWO_31), triple(-TWO_30, TWO_30, TWO_31), triple(-(1L << 60), 1L << 60, B));
        is(mul, "any", "1", "any");
        is(mul, "1", "any", "any");
        is(mul, "any", "any", "any");
    }

    /** "IMUL: [0] if one is" */
    private static void productsWithZero() {
        for (String other : new String[] {"any", "0", "" + B, "-" + B, triple(-B, B, 1), "-3 3 6"}) {
            is("48 0F AF C1", "0", other, "0");
            is("48 0F AF C1", other, "0", "0");
            is("0F AF C1", "0", other, "0");
        }
        is("48 0F AF C1", "0 1 1", "any", "any");
    }

    /** "the least and the greatest of l l', l u', u l', u u'" */
    private static void productsOfEachSign() {
        String mul = "48 0F AF C1";
        is(mul, "2 5 3", "3 10 7", "6 50 1");
        is(mul, "-5 -2 3", "3 10 7", "-50 -6 1");
        is(mul, "2 5 3", "-10 -3 7", "-50 -6 1");
        is(mul, "-5 -2 3", "-10 -3 7", "6 50 1");
        is(mul, "-5 2 7", "3 10 7", "-50 20 7");
        is(mul, "2 5 3", "-10 3 13", "-50 15 1");
        is(mul, "-5 2 7", "-10 3 13", "-20 50 1");
        is(mul, "-2 5 7", "-3 10 13", "-20 50 1");
        is(mul, "-5 2 7", "-10 -3 7", "-20 50 7");
        is(mul, "-5 -2 3", "-10 3 13", "-15 50 1");
        is(mul, "-5 0 5", "0 10 10", "-50 0 50");
    }

    /** "and gcd(s l', s' l, s s')" */
    private static void stepsOfProducts() {
        String mul = "48 0F AF C1";
        is(mul, "0 4 4", "0 6 6", "0 24 24");
        is(mul, "0 4 4", "3", "0 12 12");
        is(mul, "3", "0 4 4", "0 12 12");
        is(mul, "6 10 4", "9 15 6", "54 150 12");
        is(mul, "-6 -2 4", "9 15 6", "-90 -18 12");
        is(mul, "-2 2 2", "3 5 2", "-10 10 2");
        is(mul, "-1 1 2", "-1 1 2", "-1 1 2");
        is(mul, "5", "7", "35");
        is(mul, "-5", "-2 2 4", "-10 10 20");
    }

    /** "AND: of [v], [w]: [v and w]" */
    private static void andOfNumbers() {
        String and = "48 21 C8";
        is(and, "-" + B, "-1", "-" + B);
        is(and, "" + B, "-1", "" + B);
        is(and, "" + B, "" + (B - 1), "0");
        is(and, "-" + B, "" + B, "" + B);
        is(and, "-1", "-1", "-1");
        is(and, "-" + B, "" + (1 - B), "-" + B);
        is(and, "12", "10", "8");
    }

    /** "the least u is c: (0, c, t), t being the lowest bit of c if one of both is [c], else 1; ANY without such" */
    private static void andWithTheLeastBound() {
        String and = "48 21 C8";
        is(and, "any", "0", "0");
        is(and, "any", "1", "0 1 1");
        is(and, "any", "12", "0 12 4");
        is(and, "12", "any", "0 12 4");
        is(and, "any", "" + B, triple(0, B, B));
        is(and, "any", triple(0, B, 1), triple(0, B, 1));
        is(and, "any", "-1", "any");
        is(and, "any", "-1 1 1", "any");
        is(and, "any", "any", "any");
        is(and, "-1 1 1", "-1", "any");
        is(and, "-1 0 1", "0 8 4", "0 8 1");
        is(and, "0 12 4", "12", "0 12 4");
        is(and, "0 11 1", "12", "0 11 1");
        is(and, "0 13 1", "12", "0 12 4");
        is(and, "12", "0 13 1", "0 12 4");
        is(and, "-12 12 4", "6", "0 6 2");
        is(and, "5 8 3", "6 9 3", "0 8 1");
        is(and, "6 9 3", "5 8 3", "0 8 1");
        is(and, "-4", "0 8 4", "0 8 1");
        is(and, "0", "0 8 4", "0");
        is(and, "0", "any", "0");
    }

    /** "OR, XOR: of [v], [w] likewise" */
    private static void orAndXorOfNumbers() {
        is("48 09 C8", "" + B, "0", "" + B);
        is("48 09 C8", "" + B, "1", "any");
        is("48 09 C8", "" + (B - 1), "1", "" + (B - 1));
        is("48 09 C8", "-" + B, "" + B, "-" + B);
        is("48 09 C8", "-" + B, "1", "" + (1 - B));
        is("48 09 C8", "0", "0", "0");
        is("48 31 C8", "" + B, "" + B, "0");
        is("48 31 C8", "" + (B - 1), "-1", "-" + B);
        is("48 31 C8", "" + B, "-1", "any");
        is("48 31 C8", "" + B, "-" + B, "any");
        is("48 31 C8", "-" + B, "-1", "" + (B - 1));
    }

    /** "m being the least 2^k - 1 that is no less than u, u': (max l, m, 1), (0, m, 1); else ANY" */
    private static void orAndXorUpToAllOnes() {
        String[][] rows = {{"0 1 1", "0", "0 1 1", "0 1 1"}, {"0 1 1", "1", "1", "0 1 1"}, {"0 2 1", "0", "0 3 1", "0 3 1"},
            {"2 7 5", "3", "3 7 1", "0 7 1"}, {"2 8 6", "3", "3 15 1", "0 15 1"}, {"3", "2 8 6", "3 15 1", "0 15 1"},
            {"2 7 5", "7", "7", "0 7 1"}, {"5 7 2", "4 6 2", "5 7 1", "0 7 1"}, {"0 6 2", "8", "8 15 1", "0 15 1"},
            {triple(0, B - 1, 1), "0", triple(0, B - 1, 1), triple(0, B - 1, 1)}, {triple(0, B, B), "0", "any", "any"},
            {"0 1 1", "" + B, "any", "any"}, {"0 1 1", "" + (B / 2), triple(B / 2, B - 1, 1), triple(0, B - 1, 1)},
            {"-1 1 1", "0", "any", "any"}, {"0 1 1", "-1", "any", "any"}, {"any", "0", "any", "any"}, {"0", "any", "any", "any"},
            {"any", "0 1 1", "any", "any"}, {"-1", "0 1 1", "any", "any"}, {"0 1 1", "-2 0 1", "any", "any"}};
        for (String[] row : rows) {
            is("48 09 C8", row[0], row[1], row[2]);
            is("48 31 C8", row[0], row[1], row[3]);
        }
    }

    /** "SAR by k (k = 0: itself): (l, u shifted, s / 2^k if 2^k divides s and l, else 1)" */
    private static void signedShifts() {
        is("48 C1 F8 00", "-7 5 12", "-7 5 12");
        is("48 C1 F8 40", "-7 5 12", "-7 5 12");
        is("48 C1 F8 00", triple(-B, B, 1), triple(-B, B, 1));
        is("48 C1 F8 03", "8 24 16", "1 3 2");
        is("48 C1 F8 03", "8 24 8", "1 3 1");
        is("48 C1 F8 03", "4 20 16", "0 2 1");
        is("48 C1 F8 03", "8 20 4", "1 2 1");
        is("48 C1 F8 01", "-3 5 4", "-2 2 1");
        is("48 C1 F8 01", "-4 4 4", "-2 2 2");
        is("48 C1 F8 01", "-1", "-1");
        is("48 C1 F8 3F", "-1", "-1");
        is("48 C1 F8 3F", "-" + B, "-1");
        is("48 C1 F8 3F", "" + B, "0");
        is("48 C1 F8 3F", triple(-B, B, 2 * B), "-1 0 1");
        is("48 C1 F8 3D", triple(-B, B, 2 * B), "-1 1 2");
        is("48 C1 F8 3E", triple(-B, B, 2 * B), "-1 0 1");
        is("48 C1 F8 01", triple(-B, B, 2 * B), triple(-B / 2, B / 2, B));
        is("48 C1 F8 7F", "-1 0 1", "-1 0 1");
    }

    /** "ANY: (-2^(63-k), 2^(63-k) - 1, 1)" */
    private static void signedShiftsOfAny() {
        is("48 C1 F8 00", "any", "any");
        is("48 C1 F8 01", "any", "any");
        is("48 C1 F8 02", "any", triple(-B, B - 1, 1));
        is("48 C1 F8 03", "any", triple(-B / 2, B / 2 - 1, 1));
        is("48 C1 F8 3E", "any", "-2 1 1");
        is("48 C1 F8 3F", "any", "-1 0 1");
    }

    /** "SHR by k (0: itself): with l not below 0 as SAR; else (0, 2^(64-k) - 1, 1)" */
    private static void unsignedShifts() {
        is("48 C1 E8 00", "-7 5 12", "-7 5 12");
        is("48 C1 E8 00", "any", "any");
        is("48 C1 E8 40", "-1", "-1");
        is("48 C1 E8 03", "0 16 16", "0 2 2");
        is("48 C1 E8 03", "8 24 16", "1 3 2");
        is("48 C1 E8 03", "4 20 16", "0 2 1");
        is("48 C1 E8 01", "0 1 1", "0");
        is("48 C1 E8 01", "" + B, "" + B / 2);
        is("48 C1 E8 3F", "" + B, "0");
        for (String below : new String[] {"-1", "-1 0 1", "-8 8 16", "-" + B, "any"}) {
            is("48 C1 E8 01", below, "any");
            is("48 C1 E8 02", below, "any");
            is("48 C1 E8 03", below, triple(0, B - 1, 1));
            is("48 C1 E8 04", below, triple(0, B / 2 - 1, 1));
            is("48 C1 E8 3E", below, "0 3 1");
            is("48 C1 E8 3F", below, "0 1 1");
        }
    }

    /** "LOW: with 0 <= l and u < 2^32 itself; [v]: [its lowest 32 bits]; else with g = gcd(s, 2^32) .." */
    private static void lowHalves() {
        String all = triple(0, TWO_32 - 1, 1);
        String[][] rows = {{"0 10 5", "0 10 5"}, {triple(0, TWO_32 - 1, 3), triple(0, TWO_32 - 1, 3)},
            {triple(0, TWO_32, TWO_32 / 4), triple(0, TWO_32 - TWO_30, TWO_30)}, {triple(1, TWO_32, 1), all},
            {triple(0, TWO_32 + 2, TWO_32 + 2), triple(0, TWO_32 - 2, 2)}, {"-1 0 1", all}, {"-1 2 3", all},
            {"-4 0 4", triple(0, TWO_32 - 4, 4)}, {"-3 1 4", triple(1, TWO_32 - 3, 4)}, {"-5 7 12", triple(3, TWO_32 - 1, 4)},
            {"0", "0"}, {"-1", "" + (TWO_32 - 1)}, {"" + (TWO_32 - 1), "" + (TWO_32 - 1)}, {"" + TWO_32, "0"}, {"-" + TWO_32, "0"},
            {"" + (TWO_32 + 1), "1"}, {"" + (-TWO_32 - 1), "" + (TWO_32 - 1)}, {"" + B, "0"}, {"-" + B, "0"},
            {"" + (B - 1), "" + (TWO_32 - 1)}, {"" + (1 - B), "1"}, {"any", all}, {triple(-B, B, 1), all},
            {triple(-B, B, B), "0"}, {triple(1 - B, 1 + B - 2 * TWO_32, TWO_32), "1"}, {triple(-1, TWO_32 - 1, TWO_32), "" + (TWO_32 - 1)},
            {triple(-1, 2 * TWO_32 - 1, 2 * TWO_32), "" + (TWO_32 - 1)}, {triple(-1, TWO_31 - 1, TWO_31), triple(TWO_31 - 1, TWO_32 - 1, TWO_31)},
            {triple(-7, 3 * TWO_31 - 7, 3 * TWO_31), triple(TWO_31 - 7, TWO_32 - 7, TWO_31)}};
        for (String[] row : rows) {
            is("89 C8", "5", row[0], row[1]);
        }
    }

    /** "SIGN: of LOW: with u < 2^31 itself; with l >= 2^31 less 2^32; else all from -2^31 to 2^31 - 1 .." */
    private static void signedHalves() {
        String all = triple(-TWO_31, TWO_31 - 1, 1);
        String[][] rows = {{"0 10 5", "0 10 5"}, {"" + (TWO_31 - 1), "" + (TWO_31 - 1)}, {"" + TWO_31, "-" + TWO_31},
            {triple(0, TWO_31 - 1, 1), triple(0, TWO_31 - 1, 1)}, {triple(0, TWO_31, 1), all},
            {triple(TWO_31 - 1, TWO_31, 1), all}, {triple(TWO_31, TWO_32 - 1, 1), triple(-TWO_31, -1, 1)},
            {triple(TWO_31, TWO_31 + 3, 3), triple(-TWO_31, 3 - TWO_31, 3)}, {triple(TWO_31 - 4, TWO_31, 4), triple(-TWO_31, TWO_31 - 4, 4)},
            {triple(TWO_31 - 3, TWO_31 + 1, 4), triple(1 - TWO_31, TWO_31 - 3, 4)}, {triple(TWO_31 - 1, TWO_31 + 2, 3), all},
            {triple(TWO_31 - 1, TWO_31 + 5, 6), triple(1 - TWO_31, TWO_31 - 1, 2)}, {triple(0, TWO_31, TWO_31), triple(-TWO_31, 0, TWO_31)},
            {triple(1, TWO_31 + 1, TWO_31), triple(1 - TWO_31, 1, TWO_31)}, {"-1", "-1"}, {"-" + TWO_31, "-" + TWO_31},
            {"" + (-TWO_31 - 1), "" + (TWO_31 - 1)}, {"" + TWO_32, "0"}, {"" + (TWO_32 - 1), "-1"}, {"" + B, "0"}, {"any", all},
            {"-1 0 1", all}, {"-8 8 8", triple(-TWO_31, TWO_31 - 8, 8)}, {"-7 9 8", triple(1 - TWO_31, TWO_31 - 7, 8)},
            {triple(-1, TWO_32 - 1, TWO_32), "-1"}, {triple(5, TWO_32 + 5, TWO_32), "5"}};
        for (String[] row : rows) {
            is("48 63 C1", "5", row[0], row[1]);
        }
        is("48 63 C0", "" + TWO_31, "-" + TWO_31);
    }

    /** "with WIDTH 32: of LOW of each .., and LOW of what comes" */
    private static void halfWidthIsOfLow() {
        String all = triple(0, TWO_32 - 1, 1);
        is("01 C8", "" + (TWO_32 - 1), "1", "0");
        is("01 C8", "" + TWO_32, "" + B, "0");
        is("01 C8", triple(0, TWO_32 - 1, 1), "0", all);
        is("01 C8", triple(0, TWO_32 - 2, 2), "1", triple(1, TWO_32 - 1, 2));
        is("01 C8", triple(0, TWO_32 - 2, 2), "2", triple(0, TWO_32 - 2, 2));
        is("01 C8", "any", "any", all);
        is("29 C8", "0", "1", "" + (TWO_32 - 1));
        is("29 C8", "0 4 4", "4", triple(0, TWO_32 - 4, 4));
        is("29 C8", "4 8 4", "4", "0 4 4");
        is("21 C8", "any", "-1", all);
        is("21 C8", "any", "-16", triple(0, TWO_32 - 16, 16));
        is("09 C8", "-1 1 2", "0", triple(1, TWO_32 - 1, 1));
        is("31 C8", "any", "any", all);
        is("F7 D8", "0", "0");
        is("F7 D8", "" + TWO_31, "" + TWO_31);
        is("F7 D0", "-1", "0");
        is("F7 D0", "0 16 16", triple(15, TWO_32 - 1, 16));
        is("FF C0", "" + (TWO_32 - 1), "0");
        is("FF C0", triple(TWO_32 - 3, TWO_32 - 1, 2), triple(0, TWO_32 - 2, 2));
        is("FF C8", "0", "" + (TWO_32 - 1));
        is("FF C8", "any", all);
        is("C1 E0 01", "" + TWO_30, "" + TWO_31);
        is("C1 E0 02", "" + TWO_30, "0");
        is("C1 E0 01", "" + (TWO_30 + 1), all);
        is("C1 E0 1E", "3", "" + 3 * TWO_30);
        is("C1 E0 1E", "4", "0");
        is("C1 E0 1F", "0", all);
        is("C1 E0 00", "any", all);
        is("C1 E8 1F", "-1", "1");
        is("C1 E8 1F", "any", "0 1 1");
        is("C1 E8 01", "any", triple(0, TWO_31 - 1, 1));
        is("C1 E8 20", "-8 8 8", triple(0, TWO_32 - 8, 8));
        is("89 C0", "-8 8 8", triple(0, TWO_32 - 8, 8));
        is("C7 C0 00 00 00 80", "5", "" + TWO_31);
        is("B8 FF FF FF FF", "5", "" + (TWO_32 - 1));
    }

    /** "(IMUL, SAR: of SIGN)" */
    private static void halfWidthIsOfSign() {
        String all = triple(0, TWO_32 - 1, 1);
        is("0F AF C1", "" + (TWO_32 - 1), "" + (TWO_32 - 1), "1");
        is("0F AF C1", "" + (TWO_32 - 1), "2", "" + (TWO_32 - 2));
        is("0F AF C1", "" + TWO_30, "4", "0");
        is("0F AF C1", "" + (TWO_30 + 1), "1", all);
        is("0F AF C1", "" + (TWO_32 - TWO_30), "1", "" + (TWO_32 - TWO_30));
        is("0F AF C1", "" + (TWO_32 - TWO_30 - 1), "1", all);
        is("0F AF C1", triple(TWO_32 - 4, TWO_32 - 2, 2), "-1", "2 4 2");
        is("C1 F8 1F", "" + TWO_31, "" + (TWO_32 - 1));
        is("C1 F8 1F", "" + (TWO_31 - 1), "0");
        is("C1 F8 1F", "any", all);
        is("C1 F8 01", "" + TWO_32, "0");
        is("C1 F8 02", triple(TWO_31, TWO_31 + 8, 8), triple(0, TWO_32 - 2, 2));
        is("C1 F8 20", "" + (TWO_32 - 5), "" + (TWO_32 - 5));
        is("C1 F8 00", "-8 8 8", triple(0, TWO_32 - 8, 8));
    }

    /** "XOR, SUB of a LOCATION with itself: [0].", and of no other operation */
    private static void ofALocationWithItself() {
        for (String set : new String[] {"any", "-7 5 12", "" + B, triple(-B, B, 1)}) {
            for (String hex : new String[] {"48 31 C0", "48 33 C0", "48 29 C0", "48 2B C0", "31 C0", "33 C0", "29 C0", "2B C0"}) {
                is(hex, set, "0");
            }
        }
        is("48 21 C0", "any", "any");
        is("48 09 C0", "any", "any");
        is("48 01 C0", "-7 5 12", "-14 10 12");
        is("48 31 C8", "1 3 2", "1 3 2", "0 3 1");
        is("48 29 C8", "1 3 2", "1 3 2", "-2 2 2");
    }

    /** "of ANY s is -1, l and u 0", whatever was found before it */
    private static void anyHasNoBounds() {
        // Each makes ANY of location 0, behind one that makes -7 5 12 of location 3.
        for (String hex : new String[] {"48 01 D0", "48 29 D0", "48 21 D0", "48 09 D0", "48 31 D0", "48 0F AF C2", "48 89 D0", "48 C1 E0 1F",
            "48 C1 F8 01", "48 C1 E8 01", "48 F7 D8", "48 F7 D0", "48 FF C0", "48 FF C8"}) {
            String whole = "48 89 CB" + hex;
            boolean single = hex.startsWith("48 F7") || hex.startsWith("48 FF") || hex.startsWith("48 C1") && !hex.endsWith("1F");
            for (String before : new String[] {"-7 5 12", "5 9 4", "-9 -5 4"}) {
                Bench.due(whole, Bench.behind(whole, "0:" + (single ? "any" : "-5 -1 4"), "1:" + before, "2:any"), "any");
            }
        }
        for (String before : new String[] {"-7 5 12", "5 9 4", "-9 -5 4"}) {
            // Location 0 is joined before location 1 is, which comes to ANY.
            StrideWatch watch = Bench.fed("48 85 D2 74 06 48 89 D8 48 89 F1 C3");
            Bench.give(watch, "0:0", "1:" + before, "3:" + before);
            watch.look();
            Bench.due("a join with any behind " + before, Bench.setAt(watch, 11, 1), "any");
        }
    }

    /** "Constants are [v] (ANY, if too large)." */
    private static void constantsThatAreTooLarge() {
        is("48 B8 00 00 00 00 00 00 00 20", "5", "" + B);
        is("48 B8 01 00 00 00 00 00 00 20", "5", "any");
        is("48 B8 00 00 00 00 00 00 00 E0", "5", "-" + B);
        is("48 B8 FF FF FF FF FF FF FF DF", "5", "any");
        is("48 B8 FF FF FF FF FF FF FF 7F", "5", "any");
        is("48 B8 00 00 00 00 00 00 00 80", "5", "any");
        is("48 81 C0 FF FF FF 7F", "1", "" + TWO_31);
        is("48 81 C0 00 00 00 80", "-1", "" + (-TWO_31 - 1));
    }
}
