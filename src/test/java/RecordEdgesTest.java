/** Edges of RECORDS and of JUMP IF in LOOKING; each method has one sentence of the document. */
public final class RecordEdgesTest {
    private static final long B = 1L << 61;
    private static final String CMP = "48 39 C8";
    private static final String TEST = "48 85 C0";
    /** Of 0 20 4 behind a je: not taken, taken. */
    private static final String TELLS_ZERO = "4 20 4, any | 0, any";
    private static final String TELLS_NOTHING = "0 20 4, any | 0 20 4, any";

    public static void main(String[] args) {
        cmpOfTwoLocations();
        cmpWithAConstant();
        cmpOfOneLocation();
        cmpOfHalfWidth();
        results();
        testOfOneLocation();
        otherOperationsTakeItAway();
        otherOperationsHaveNone();
        movesOfWhatIsInIt();
        movesOfOthers();
        pointZeroHasNoRecord();
        equalToOneNumber();
        equalToOneNumberOfX();
        equalWithinBounds();
        unequalAtABound();
        unequalToItself();
        below();
        atMost();
        belowAtTheLargestBounds();
        belowTakesNoBoundOfAny();
        belowWithoutSigns();
        belowWithoutSignsOfAny();
        belowWithoutSignsOfNegatives();
        eachByTheSetsAsTheyWere();
        resultsOfZero();
        resultsOfSign();
        nothingElse();
        edgesNotGoneAlong();
        theConstantIsNone();
        behindItFirst();
        Bench.end();
    }

    private static String triple(long low, long high, long step) {
        return low + " " + high + " " + step;
    }

    private static void je(String flags, String set, String want) {
        Bench.due("je behind " + flags + " of " + set, Bench.edges(flags, 4, set, "any"), want);
    }

    /** The condition and its opposite, whose edges are the other way round. */
    private static void by(String flags, int condition, String a, String b, String no, String yes) {
        String what = flags + " of " + a + " with " + b + " by " + condition;
        Bench.due(what, Bench.edges(flags, condition, a, b), no + " | " + yes);
        Bench.due(what + " turned", Bench.edges(flags, condition + 1, a, b), yes + " | " + no);
    }

    private static void cmp(int condition, String a, String b, String no, String yes) {
        by(CMP, condition, a, b, no, yes);
    }

    /** The same CMP with x and y the other way round: location 1 is x, location 0 is y. */
    private static void cmpTurned(int condition, String a, String b, String no, String yes) {
        by("48 39 C1", condition, a, b, no, yes);
    }

    /** "CMP with WIDTH 64: that LOCATION x and another one .. y" */
    private static void cmpOfTwoLocations() {
        cmp(4, "0 20 4", "8", "0 20 4, 8", "8, 8");
        by("48 3B C1", 12, "0 20 4", "8", "8 20 4, 8", "0 4 4, 8");
        cmpTurned(12, "0 20 4", "8", "0 8 4, 8", "12 20 4, 8");
        StrideWatch watch = Bench.fed("4C 39 7D C0 7C 01 C3 C3");
        Bench.give(watch, "23:0 20 4", "15:8");
        watch.look();
        Bench.due("a place of the stack, not below", Bench.setAt(watch, 6, 23), "8 20 4");
        Bench.due("a place of the stack, below", Bench.setAt(watch, 7, 23), "0 4 4");
        StrideWatch other = Bench.fed("4C 3B 7D C0 7C 01 C3 C3");
        Bench.give(other, "23:0 20 4", "15:8");
        other.look();
        Bench.due("compared with a place, not below", Bench.setAt(other, 6, 23), "0 8 4");
        Bench.due("compared with a place, below", Bench.setAt(other, 7, 23), "12 20 4");
    }

    /** ".. or a constant, y" */
    private static void cmpWithAConstant() {
        by("48 83 F8 7F", 12, "120 130 1", "any", "127 130 1, any", "120 126 1, any");
        by("48 83 F8 80", 12, "-130 -120 1", "any", "-128 -120 1, any", "-130 -129 1, any");
        by("48 81 F8 FF FF FF 7F", 12, "0 4294967294 2147483647", "any", "2147483647 4294967294 2147483647, any", "0, any");
        by("48 81 F8 00 00 00 80", 12, "-4294967296 0 2147483648", "any", "-2147483648 0 2147483648, any", "-4294967296, any");
        je("48 83 F8 00", "0 20 4", TELLS_ZERO);
    }

    /** "(none, if both are one)" */
    private static void cmpOfOneLocation() {
        je("48 39 C0", "0 20 4", TELLS_NOTHING);
        je("48 3B C0", "0 20 4", TELLS_NOTHING);
        je(TEST + "48 39 C9", "0 20 4", TELLS_NOTHING);
        Bench.due("cmp of any with itself", Bench.edges("48 39 C0", 5, "any", "3"), "any, 3 | any, 3");
    }

    /** "CMP with WIDTH 64": another one takes the RECORD away. */
    private static void cmpOfHalfWidth() {
        je("83 F8 00", "0 20 4", TELLS_NOTHING);
        je("39 C8", "0 20 4", TELLS_NOTHING);
        je(TEST + "83 F8 00", "0 20 4", TELLS_NOTHING);
        je(TEST + "39 CB", "0 20 4", TELLS_NOTHING);
    }

    /** "ADD, SUB, AND, OR, XOR, INC, DEC, NEG with WIDTH 64 ..: that x and 0, as a RESULT" */
    private static void results() {
        je("48 83 C0 04", "-4 16 4", TELLS_ZERO);
        je("48 83 E8 04", "4 24 4", TELLS_ZERO);
        je("48 FF C0", "-1 19 4", TELLS_ZERO);
        je("48 FF C8", "1 21 4", TELLS_ZERO);
        je("48 F7 D8", "-20 0 4", TELLS_ZERO);
        je("48 83 E0 03", "any", "1 3 1, any | 0, any");
        je("48 83 C8 00", "0 1 1", "1, any | 0, any");
        je("48 83 F0 01", "0 1 1", "1, any | 0, any");
        // It is of the LOCATION that gets, not of the other one.
        Bench.due("je behind add", Bench.edges("48 01 C8", 4, "-4 16 4", "0 4 4"), "-4 20 4, 0 4 4 | 0, 0 4 4");
        Bench.due("je behind add to 1", Bench.edges("48 03 C8", 4, "0 4 4", "-4 0 4"), "0 4 4, -4 4 4 | 0 4 4, 0");
    }

    /** "and TEST of a LOCATION with itself, with WIDTH 64" */
    private static void testOfOneLocation() {
        je(TEST, "0 20 4", TELLS_ZERO);
        je("85 C0", "0 20 4", TELLS_NOTHING);
        je("48 85 C8", "0 20 4", TELLS_NOTHING);
        je("48 85 C1", "0 20 4", TELLS_NOTHING);
        je("48 F7 C0 FF FF FF FF", "0 20 4", TELLS_NOTHING);
        StrideWatch watch = Bench.fed("4D 85 FF 74 01 C3 C3");
        Bench.give(watch, "15:0 20 4");
        watch.look();
        Bench.due("the last register, not zero", Bench.setAt(watch, 5, 15), "4 20 4");
        Bench.due("the last register, zero", Bench.setAt(watch, 6, 15), "0");
    }

    /** "all other operations that change flags: none" */
    private static void otherOperationsTakeItAway() {
        String[] others = {"48 0F AF D3", "0F AF D3", "48 C1 E3 00", "48 C1 EB 00", "48 C1 FB 00", "C1 E3 00", "C1 EB 00",
            "C1 FB 00", "48 C1 E3 05", "01 D3", "09 D3", "21 D3", "29 D3", "31 D3", "39 D3", "85 DB", "48 85 D3", "83 C3 01",
            "FF C3", "FF CB", "F7 DB", "F7 C3 01 00 00 00", "48 F7 C3 01 00 00 00"};
        for (String other : others) {
            je(TEST + other, "0 20 4", TELLS_NOTHING);
            je("48 83 F8 00" + other, "0 20 4", TELLS_NOTHING);
        }
        // These have a RECORD of their own, which is of another LOCATION.
        for (String other : new String[] {"48 01 D3", "48 09 D3", "48 21 D3", "48 29 D3", "48 31 D3", "48 39 D3", "48 85 DB",
            "48 83 C3 01", "48 FF C3", "48 FF CB", "48 F7 DB", "48 83 FB 01"}) {
            je(TEST + other, "0 20 4", TELLS_NOTHING);
        }
    }

    /** The same of location 0 itself: either edge has the same SETS then. */
    private static void otherOperationsHaveNone() {
        String[] others = {"48 0F AF C1", "0F AF C1", "48 C1 E0 00", "48 C1 E8 00", "48 C1 F8 00", "48 C1 E0 02", "48 C1 E8 02", "48 C1 F8 02",
            "C1 E0 00", "C1 E8 00", "C1 F8 00", "01 C8", "09 C8", "21 C8", "29 C8", "31 C8", "39 C8", "85 C0", "85 C8", "83 C0 00", "83 C8 00",
            "83 E0 FF", "83 E8 00", "83 F0 00", "83 F8 00", "FF C0", "FF C8", "F7 D8", "F7 C0 01 00 00 00", "48 F7 C0 01 00 00 00", "48 85 C8"};
        for (String other : others) {
            for (int condition : new int[] {4, 5, 8, 9, 12, 15, 2, 7}) {
                String[] edges = Bench.edges(other, condition, "0 20 4", "0 1 1").split(" \\| ");
                Bench.due(condition + " behind " + other, edges[0], edges[1]);
                if (edges[0].equals("-")) {
                    Bench.due("the edges behind " + other, edges[0], "a pair of sets");
                }
            }
        }
        Bench.due("je behind imul", Bench.edges("48 0F AF C1", 4, "0 20 4", "1"), "0 20 4, 1 | 0 20 4, 1");
        Bench.due("js behind imul", Bench.edges("48 0F AF C1", 8, "0 20 4", "-1"), "-20 0 4, -1 | -20 0 4, -1");
    }

    /** "MOV, SIGN, NOT of a LOCATION that is in it: none." */
    private static void movesOfWhatIsInIt() {
        je(TEST + "48 89 C0", "0 20 4", TELLS_NOTHING);
        je(TEST + "89 C0", "0 20 4", TELLS_NOTHING);
        je(TEST + "48 8B C0", "0 20 4", TELLS_NOTHING);
        je(TEST + "48 63 C0", "0 20 4", TELLS_NOTHING);
        je(TEST + "48 F7 D0 48 F7 D0", "0 20 4", TELLS_NOTHING);
        je(TEST + "F7 D0 F7 D0", "0 20 4", triple(0, (1L << 32) - 4, 4) + ", any | " + triple(0, (1L << 32) - 4, 4) + ", any");
        je(TEST + "48 C7 C0 00 00 00 00", "0 20 4", "0, any | 0, any");
        je(TEST + "B8 00 00 00 00", "0 20 4", "0, any | 0, any");
        for (String move : new String[] {"48 89 C9", "89 C9", "48 63 C9", "48 F7 D1 48 F7 D1"}) {
            Bench.due(move + " of y", Bench.edges(CMP + move, 12, "0 20 4", "8"), "0 20 4, 8 | 0 20 4, 8");
        }
        StrideWatch stack = Bench.fed("48 83 7D C0 08 48 89 5D C0 74 01 C3 C3");
        Bench.give(stack, "23:0 20 4", "3:0 20 4");
        stack.look();
        Bench.due("a place that was moved to", Bench.setAt(stack, 12, 23), "0 20 4");
    }

    /** The same of others, or from what is in it: the RECORD stays; NOP and jumps leave it, too. */
    private static void movesOfOthers() {
        for (String other : new String[] {"48 89 C3", "89 C3", "48 8B D8", "48 63 D8", "48 F7 D3", "F7 D3", "90", "EB 00", "70 00",
            "48 C7 C3 00 00 00 00", "BB 00 00 00 00", "48 89 45 F8", "48 8B 5D F8"}) {
            je(TEST + other, "0 20 4", TELLS_ZERO);
            Bench.due(other + " behind cmp", Bench.edges(CMP + other, 12, "0 20 4", "8"), "8 20 4, 8 | 0 4 4, 8");
        }
    }

    /** "POINT 0 has the SETS given and no RECORD." */
    private static void pointZeroHasNoRecord() {
        je("", "0 20 4", TELLS_NOTHING);
        StrideWatch watch = Bench.fed("74 05 48 85 C0 EB F9 C3");
        Bench.give(watch, "0:0 20 4");
        Bench.due("look at a loop to point 0", watch.look(), 1);
        Bench.due("point 0 behind a record", watch.reached(0), 1);
        Bench.due("not taken at point 0", Bench.setAt(watch, 2, 0), "0 20 4");
        Bench.due("taken at point 0", Bench.setAt(watch, 7, 0), "0 20 4");
    }

    /** "Z: if y's SET is [v] x is what has v of it, [v] or NONE (ANY: [v])" */
    private static void equalToOneNumber() {
        cmp(4, "0 20 4", "0", "4 20 4, 0", "0, 0");
        cmp(4, "0 20 4", "20", "0 16 4, 20", "20, 20");
        cmp(4, "0 20 4", "8", "0 20 4, 8", "8, 8");
        cmp(4, "0 20 4", "9", "0 20 4, 9", "-");
        cmp(4, "0 20 4", "-4", "0 20 4, -4", "-");
        cmp(4, "0 20 4", "24", "0 20 4, 24", "-");
        cmp(4, "any", "24", "any, 24", "24, 24");
        cmp(4, "24", "24", "-", "24, 24");
        cmp(4, "24", "25", "24, 25", "-");
        cmp(4, triple(-B, B, 2 * B), "" + B, -B + ", " + B, B + ", " + B);
    }

    /** "if x's is, likewise y" */
    private static void equalToOneNumberOfX() {
        cmp(4, "8", "0 20 4", "8, 0 20 4", "8, 8");
        cmp(4, "9", "0 20 4", "9, 0 20 4", "-");
        cmp(4, "0", "0 20 4", "0, 4 20 4", "0, 0");
        cmp(4, "20", "0 20 4", "20, 0 16 4", "20, 20");
        cmp(4, "24", "0 20 4", "24, 0 20 4", "-");
        cmp(4, "24", "any", "24, any", "24, 24");
    }

    /** "else both are CUT to the other's bounds (ANY becomes the other one)" */
    private static void equalWithinBounds() {
        cmp(4, "0 20 4", "4 16 3", "0 20 4, 4 16 3", "4 16 4, 4 16 3");
        cmp(4, "0 20 4", "3 17 7", "0 20 4, 3 17 7", "4 16 4, 3 17 7");
        cmp(4, "3 17 7", "0 20 4", "3 17 7, 0 20 4", "3 17 7, 4 16 4");
        cmp(4, "0 20 4", "20 30 5", "0 20 4, 20 30 5", "20, 20");
        cmp(4, "0 20 4", "21 31 5", "0 20 4, 21 31 5", "-");
        cmp(4, "0 20 4", "-10 0 5", "0 20 4, -10 0 5", "0, 0");
        cmp(4, "0 20 4", "-11 -1 5", "0 20 4, -11 -1 5", "-");
        cmp(4, "0 20 4", "1 3 2", "0 20 4, 1 3 2", "-");
        cmp(4, "1 3 2", "0 20 4", "1 3 2, 0 20 4", "-");
        cmp(4, "any", "0 20 4", "any, 0 20 4", "0 20 4, 0 20 4");
        cmp(4, "0 20 4", "any", "0 20 4, any", "0 20 4, 0 20 4");
        cmp(4, "any", "any", "any, any", "any, any");
        cmp(4, triple(-B, B, 1), triple(-B, B, 2 * B), triple(-B, B, 1) + ", " + triple(-B, B, 2 * B),
            triple(-B, B, 1) + ", " + triple(-B, B, 2 * B));
    }

    /** "Not Z: with y's [v]: x without v, where v is l or u .. likewise y with x's." */
    private static void unequalAtABound() {
        cmp(4, "0 4 4", "0", "4, 0", "0, 0");
        cmp(4, "0 4 4", "4", "0, 4", "4, 4");
        cmp(4, "0", "0 4 4", "0, 4", "0, 0");
        cmp(4, "4", "0 4 4", "4, 0", "4, 4");
        cmp(4, "0 8 4", "4", "0 8 4, 4", "4, 4");
        cmp(4, "any", "0", "any, 0", "0, 0");
        cmp(4, "0 8 4", "0 8 4", "0 8 4, 0 8 4", "0 8 4, 0 8 4");
        cmp(4, triple(-B, B, 1), "-" + B, triple(1 - B, B, 1) + ", -" + B, "-" + B + ", -" + B);
        cmp(4, triple(-B, B, 1), "" + B, triple(-B, B - 1, 1) + ", " + B, B + ", " + B);
    }

    /** "(NONE if it is [v])" */
    private static void unequalToItself() {
        cmp(4, "5", "5", "-", "5, 5");
        cmp(4, "-" + B, "-" + B, "-", "-" + B + ", -" + B);
        by("48 83 F8 05", 4, "5", "any", "-", "5, any");
        by(TEST, 4, "0", "any", "-", "0, any");
    }

    /** "Below, c = 12: x CUT up to y's u - 1, y from x's l + 1 on; .. the other way round for not" */
    private static void below() {
        cmp(12, "0 20 4", "8", "8 20 4, 8", "0 4 4, 8");
        cmp(12, "0 20 4", "9", "12 20 4, 9", "0 8 4, 9");
        cmp(12, "0 20 4", "7", "8 20 4, 7", "0 4 4, 7");
        cmp(12, "0 20 4", "0", "0 20 4, 0", "-");
        cmp(12, "0 20 4", "1", "4 20 4, 1", "0, 1");
        cmp(12, "0 20 4", "20", "20, 20", "0 16 4, 20");
        cmp(12, "0 20 4", "21", "-", "0 20 4, 21");
        cmp(12, "0 20 4", "0 9 3", "0 20 4, 0 9 3", "0 8 4, 3 9 3");
        cmp(12, "8", "0 20 4", "8, 0 8 4", "8, 12 20 4");
        cmp(12, "-8 -4 4", "-4 0 4", "-4, -4", "-8 -4 4, -4 0 4");
        cmp(12, "-8 -4 4", "-8 -4 4", "-8 -4 4, -8 -4 4", "-8, -4");
    }

    /** "14, 15 as 'at most'": "without - 1, + 1" */
    private static void atMost() {
        cmp(14, "0 20 4", "8", "12 20 4, 8", "0 8 4, 8");
        cmp(14, "0 20 4", "7", "8 20 4, 7", "0 4 4, 7");
        cmp(14, "0 20 4", "0", "4 20 4, 0", "0, 0");
        cmp(14, "0 20 4", "-1", "0 20 4, -1", "-");
        cmp(14, "0 20 4", "19", "20, 19", "0 16 4, 19");
        cmp(14, "0 20 4", "20", "-", "0 20 4, 20");
        cmp(14, "0 20 4", "0 9 3", "4 20 4, 0 9 3", "0 8 4, 0 9 3");
        cmp(14, "8", "0 20 4", "8, 0 4 4", "8, 8 20 4");
        cmp(14, "-8 -4 4", "-4 0 4", "-", "-8 -4 4, -4 0 4");
        cmp(14, "-4 0 4", "-8 -4 4", "-4 0 4, -8 -4 4", "-4, -4");
    }

    /** The same where u - 1 and l + 1 are near the largest bounds. */
    private static void belowAtTheLargestBounds() {
        String all = triple(-B, B, 1);
        cmp(12, all, "" + B, B + ", " + B, triple(-B, B - 1, 1) + ", " + B);
        cmp(12, all, "-" + B, all + ", -" + B, "-");
        cmp(12, "" + B, all, B + ", " + all, "-");
        cmp(12, "-" + B, all, -B + ", " + -B, -B + ", " + triple(1 - B, B, 1));
        cmp(14, all, "" + B, "-", all + ", " + B);
        cmp(14, all, "-" + B, triple(1 - B, B, 1) + ", -" + B, "-" + B + ", -" + B);
        cmp(12, all, all, all + ", " + all, triple(-B, B - 1, 1) + ", " + triple(1 - B, B, 1));
        cmp(2, "0 " + B + " 1", "" + B, B + ", " + B, "0 " + (B - 1) + " 1, " + B);
        cmp(6, "0 " + B + " 1", "" + B, "-", "0 " + B + " 1, " + B);
    }

    /** "of ANY no bound is taken" and "ANY stays ANY" */
    private static void belowTakesNoBoundOfAny() {
        for (int condition : new int[] {12, 14}) {
            cmp(condition, "any", "0 20 4", "any, 0 20 4", "any, 0 20 4");
            cmp(condition, "0 20 4", "any", "0 20 4, any", "0 20 4, any");
            cmp(condition, "any", "any", "any, any", "any, any");
            cmp(condition, "any", "-" + B, "any, -" + B, "any, -" + B);
        }
    }

    /** "c = 2, 3, 6, 7 are the same without signs: .. x, is CUT to 0 .. u - 1 (0 .. u) .. y from x's l + 1 (l) on" */
    private static void belowWithoutSigns() {
        cmp(2, "0 20 4", "8", "8 20 4, 8", "0 4 4, 8");
        cmp(2, "0 20 4", "1", "4 20 4, 1", "0, 1");
        cmp(2, "0 20 4", "0", "0 20 4, 0", "-");
        cmp(2, "0 20 4", "21", "-", "0 20 4, 21");
        cmp(2, "0 20 4", "20", "20, 20", "0 16 4, 20");
        cmp(2, "0 20 4", "0 9 3", "0 20 4, 0 9 3", "0 8 4, 3 9 3");
        cmp(6, "0 20 4", "8", "12 20 4, 8", "0 8 4, 8");
        cmp(6, "0 20 4", "0", "4 20 4, 0", "0, 0");
        cmp(6, "0 20 4", "20", "-", "0 20 4, 20");
        cmp(6, "0 20 4", "19", "20, 19", "0 16 4, 19");
        cmp(6, "0 20 4", "0 9 3", "4 20 4, 0 9 3", "0 8 4, 0 9 3");
    }

    /** "(ANY becomes that)"; what ANY was before has no bound, so that y stays. */
    private static void belowWithoutSignsOfAny() {
        cmp(2, "any", "8", "any, 8", "0 7 1, 8");
        cmp(2, "any", "2", "any, 2", "0 1 1, 2");
        cmp(2, "any", "1", "any, 1", "0, 1");
        cmp(2, "any", "0", "any, 0", "-");
        cmp(6, "any", "8", "any, 8", "0 8 1, 8");
        cmp(6, "any", "1", "any, 1", "0 1 1, 1");
        cmp(6, "any", "0", "any, 0", "0, 0");
        cmp(2, "any", "0 8 4", "any, 0 8 4", "0 7 1, 0 8 4");
        cmp(6, "any", "0 8 4", "any, 0 8 4", "0 8 1, 0 8 4");
        cmp(2, "any", "" + B, "any, " + B, triple(0, B - 1, 1) + ", " + B);
        cmp(6, "any", "" + B, "any, " + B, triple(0, B, 1) + ", " + B);
        cmp(2, "0 8 4", "any", "0 8 4, 0 8 1", "0 8 4, any");
        cmp(6, "0 8 4", "any", "0 8 4, 0 7 1", "0 8 4, any");
        cmp(6, "0", "any", "-", "0, any");
        cmp(2, "0", "any", "0, 0", "0, any");
        cmp(2, "any", "any", "any, any", "any, any");
        cmp(6, "any", "any", "any, any", "any, any");
    }

    /** "if that has l not below 0"; "if that was not below 0 before; if y is not so, nothing" */
    private static void belowWithoutSignsOfNegatives() {
        cmp(2, "-8 8 4", "0 8 4", "-8 8 4, 0 8 4", "0 4 4, 0 8 4");
        cmp(2, "-1 8 9", "0 8 4", "-1 8 9, 0 8 4", "-");
        cmp(2, "0 8 4", "-1 8 9", "0 8 4, 8", "0 8 4, -1 8 9");
        cmp(2, "-1", "-1 8 9", "-1, -1 8 9", "-1, -1 8 9");
        cmp(2, "-1", "-2", "-1, -2", "-1, -2");
        cmp(6, "-1", "-2", "-1, -2", "-1, -2");
        cmp(2, "-8 8 4", "-8 8 4", "-8 8 4, -8 8 4", "-8 8 4, -8 8 4");
        cmp(2, "-8 -4 4", "0 8 4", "-8 -4 4, 0 8 4", "-");
        cmp(6, "-8 -4 4", "0 8 4", "-8 -4 4, 0 8 4", "-");
        cmp(2, "any", "-1", "any, -1", "any, -1");
        cmp(2, "any", "-1 8 9", "any, -1 8 9", "any, -1 8 9");
        cmp(6, "0 8 4", "-1", "-", "0 8 4, -1");
    }

    /** "Each by the SETS as they were." */
    private static void eachByTheSetsAsTheyWere() {
        // x is cut to 5 .. 9; y is cut to the 1 .. 21 that x had before.
        cmp(4, "1 21 4", "2 10 2", "1 21 4, 2 10 2", "5 9 4, 2 10 2");
        // x is cut to 5 .. 15, but the -5 that it had cuts nothing of y.
        cmp(2, "-5 25 10", "0 20 1", "-5 25 10, 0 20 1", "5 15 10, 0 20 1");
        cmp(6, "-5 25 10", "0 20 1", "-5 25 10, 0 20 1", "5 15 10, 0 20 1");
    }

    /** "As a RESULT: Z, not Z: as by CMP with [0]" */
    private static void resultsOfZero() {
        by(TEST, 4, "0 20 4", "3", "4 20 4, 3", "0, 3");
        by(TEST, 4, "-20 0 4", "3", "-20 -4 4, 3", "0, 3");
        by(TEST, 4, "-20 20 4", "3", "-20 20 4, 3", "0, 3");
        by(TEST, 4, "-1 1 2", "3", "-1 1 2, 3", "-");
        by(TEST, 4, "0 1 1", "3", "1, 3", "0, 3");
        by(TEST, 4, "0", "3", "-", "0, 3");
        by(TEST, 4, "any", "3", "any, 3", "0, 3");
    }

    /** "S: CUT up to -1; not S: from 0 on." */
    private static void resultsOfSign() {
        by(TEST, 8, "-20 20 4", "3", "0 20 4, 3", "-20 -4 4, 3");
        by(TEST, 8, "-1 0 1", "3", "0, 3", "-1, 3");
        by(TEST, 8, "-1", "3", "-", "-1, 3");
        by(TEST, 8, "0", "3", "0, 3", "-");
        by(TEST, 8, "0 20 4", "3", "0 20 4, 3", "-");
        by(TEST, 8, "-20 -1 1", "3", "-", "-20 -1 1, 3");
        by(TEST, 8, "-3 3 6", "3", "3, 3", "-3, 3");
        by(TEST, 8, "any", "3", "any, 3", "any, 3");
        by(TEST, 8, triple(-B, B, 2 * B), "3", B + ", 3", -B + ", 3");
    }

    /** "Else nothing." */
    private static void nothingElse() {
        for (int condition : new int[] {0, 8}) {
            cmp(condition, "0 20 4", "8", "0 20 4, 8", "0 20 4, 8");
            cmp(condition, "any", "8", "any, 8", "any, 8");
            cmp(condition, "8", "8", "8, 8", "8, 8");
        }
        for (int condition : new int[] {0, 2, 6, 12, 14}) {
            by(TEST, condition, "-20 20 4", "8", "-20 20 4, 8", "-20 20 4, 8");
            by(TEST, condition, "0", "8", "0, 8", "0, 8");
            by(TEST, condition, "-1", "8", "-1, 8", "-1, 8");
        }
        for (int condition : new int[] {0, 2, 4, 6, 8, 12, 14}) {
            by("", condition, "0", "8", "0, 8", "0, 8");
        }
    }

    /** "If x or y .. is NONE then, the edge is not gone along." */
    private static void edgesNotGoneAlong() {
        // Of the two only y, only x, and both come to NONE.
        cmp(4, "0 20 10", "3 7 4", "0 20 10, 3 7 4", "-");
        cmp(4, "3 7 4", "0 20 10", "3 7 4, 0 20 10", "-");
        cmp(4, "3 7 4", "8 12 4", "3 7 4, 8 12 4", "-");
        StrideWatch watch = Bench.fed("48 83 F8 05 74 02 90 C3 90 C3");
        watch.given(0, 6, 6, 0);
        watch.look();
        Bench.due("what lies behind an edge that is not gone along", watch.reached(8) + watch.reached(9), 0);
        Bench.due("what lies behind the other one", watch.reached(6) + watch.reached(7), 2);
    }

    /** "(the constant, too)" */
    private static void theConstantIsNone() {
        // Without signs -1 is above all that x has: not below never holds, though x itself is not cut.
        by("48 83 F8 FF", 2, "4 20 4", "any", "-", "4 20 4, any");
        by("48 83 F8 FF", 6, "4 20 4", "any", "-", "4 20 4, any");
        by("48 81 F8 00 00 00 80", 2, "4 20 4", "any", "-", "4 20 4, any");
        by("48 83 F8 FF", 2, "-1 19 4", "any", "-1 19 4, any", "-1 19 4, any");
        by("48 83 F8 FF", 2, "any", "any", "any, any", "any, any");
        by("48 83 F8 05", 4, "0 20 4", "any", "0 20 4, any", "-");
    }

    /** "(behind it first)": where both edges lead to one POINT, what comes first is seen by how often it got something. */
    private static void behindItFirst() {
        StrideWatch wide = Bench.fed(TEST + "74 00 C3");
        wide.look();
        Bench.due("all numbers first, then 0", wide.reached(5), 1);
        StrideWatch narrow = Bench.fed(TEST + "75 00 C3");
        narrow.look();
        Bench.due("0 first, then all numbers", narrow.reached(5), 2);
        Bench.due("the set behind it", Bench.setAt(narrow, 5, 0), "any");
    }
}
