/** Promises 8 and 10: what a JUMP IF tells along its two edges, and where flags come from. */
public final class BranchTest {
    private static final long B = 1L << 61;

    public static void main(String[] args) {
        equality();
        inequality();
        signedOrder();
        unsignedOrder();
        results();
        conditionsThatTellNothing();
        whereFlagsComeFrom();
        whatTakesARecordAway();
        recordsThatMeet();
        Bench.end();
    }

    /** By CMP of 0 with 1; both the condition and its opposite, whose edges are the other way round. */
    private static void compared(int condition, String a, String b, String no, String yes) {
        String what = "cmp " + a + " with " + b + " by " + condition;
        Bench.due(what, Bench.edges("48 39 C8", condition, a, b), no + " | " + yes);
        Bench.due(what + " turned", Bench.edges("48 39 C8", condition + 1, a, b), yes + " | " + no);
    }

    private static void equality() {
        compared(4, "0 20 4", "8", "0 20 4, 8", "8, 8");
        compared(4, "0 20 4", "9", "0 20 4, 9", "-");
        compared(4, "0 20 4", "24", "0 20 4, 24", "-");
        compared(4, "8", "0 20 4", "8, 0 20 4", "8, 8");
        compared(4, "9", "0 20 4", "9, 0 20 4", "-");
        compared(4, "any", "9", "any, 9", "9, 9");
        compared(4, "9", "any", "9, any", "9, 9");
        compared(4, "9", "9", "-", "9, 9");
        compared(4, "9", "8", "9, 8", "-");
        compared(4, "any", "any", "any, any", "any, any");
        compared(4, "any", "0 20 4", "any, 0 20 4", "0 20 4, 0 20 4");
        compared(4, "0 20 4", "any", "0 20 4, any", "0 20 4, 0 20 4");
        compared(4, "0 20 4", "-3 12 3", "0 20 4, -3 12 3", "0 12 4, 0 12 3");
        compared(4, "0 20 4", "17 33 16", "0 20 4, 17 33 16", "20, 17");
        compared(4, "0 20 4", "30 40 5", "0 20 4, 30 40 5", "-");
    }

    private static void inequality() {
        compared(4, "0 20 4", "0", "4 20 4, 0", "0, 0");
        compared(4, "0 20 4", "20", "0 16 4, 20", "20, 20");
        compared(4, "0 4 4", "0", "4, 0", "0, 0");
        compared(4, "0 4 4", "4", "0, 4", "4, 4");
        compared(4, "20", "0 20 4", "20, 0 16 4", "20, 20");
        compared(4, "0 20 4", "4 24 4", "0 20 4, 4 24 4", "4 20 4, 4 20 4");
    }

    private static void signedOrder() {
        compared(12, "0 20 4", "9", "12 20 4, 9", "0 8 4, 9");
        compared(12, "0 20 4", "8", "8 20 4, 8", "0 4 4, 8");
        compared(12, "0 20 4", "0", "0 20 4, 0", "-");
        compared(12, "0 20 4", "21", "-", "0 20 4, 21");
        compared(12, "0 20 4", "20", "20, 20", "0 16 4, 20");
        compared(12, "0 20 4", "2 10 2", "4 20 4, 2 10 2", "0 8 4, 2 10 2");
        compared(12, "4 20 4", "0 10 2", "4 20 4, 0 10 2", "4 8 4, 6 10 2");
        compared(12, "-8 -4 4", "0 10 2", "-", "-8 -4 4, 0 10 2");
        compared(12, "any", "5", "any, 5", "any, 5");
        compared(12, "5", "any", "5, any", "5, any");
        compared(12, "any", "any", "any, any", "any, any");
        compared(14, "0 20 4", "8", "12 20 4, 8", "0 8 4, 8");
        compared(14, "0 20 4", "0", "4 20 4, 0", "0, 0");
        compared(14, "0 20 4", "20", "-", "0 20 4, 20");
        compared(14, "4 20 4", "0 10 2", "4 20 4, 0 10 2", "4 8 4, 4 10 2");
        compared(14, "0 4 4", "-10 2 2", "0 4 4, -10 2 2", "0, 0 2 2");
        compared(14, -B + " " + B + " 1", "" + B, "-", -B + " " + B + " 1, " + B);
        compared(12, -B + " " + B + " 1", "-" + B, -B + " " + B + " 1, -" + B, "-");
    }

    private static void unsignedOrder() {
        compared(2, "0 20 4", "9", "12 20 4, 9", "0 8 4, 9");
        compared(2, "any", "9", "any, 9", "0 8 1, 9");
        compared(2, "any", "1", "any, 1", "0, 1");
        compared(2, "any", "0", "any, 0", "-");
        compared(2, "-20 20 4", "9", "-20 20 4, 9", "0 8 4, 9");
        compared(2, "-20 20 4", "0 9 3", "-20 20 4, 0 9 3", "0 8 4, 0 9 3");
        compared(2, "-20 -4 4", "9", "-20 -4 4, 9", "-");
        compared(2, "4 20 4", "0 9 3", "4 20 4, 0 9 3", "4 8 4, 6 9 3");
        compared(2, "9", "any", "9, 0 9 1", "9, any");
        compared(2, "4 20 4", "any", "4 20 4, 0 20 1", "4 20 4, any");
        compared(2, "4 20 4", "-1", "-", "4 20 4, -1");
        compared(2, "-5", "-1", "-5, -1", "-5, -1");
        compared(2, "any", "any", "any, any", "any, any");
        compared(2, "any", "-1", "any, -1", "any, -1");
        compared(6, "0 20 4", "8", "12 20 4, 8", "0 8 4, 8");
        compared(6, "any", "8", "any, 8", "0 8 1, 8");
        compared(6, "any", "0", "any, 0", "0, 0");
        compared(6, "4 20 4", "0 9 3", "4 20 4, 0 9 3", "4 8 4, 6 9 3");
        compared(6, "4 20 4", "any", "4 20 4, 0 19 1", "4 20 4, any");
        compared(6, "-20 20 4", "8 12 4", "-20 20 4, 8 12 4", "0 12 4, 8 12 4");
        compared(6, "0", "any", "-", "0, any");
    }

    private static void result(String flags, int condition, String a, String no, String yes) {
        String what = flags + " of " + a + " by " + condition;
        Bench.due(what, Bench.edges(flags, condition, a, "any"), no + " | " + yes);
        Bench.due(what + " turned", Bench.edges(flags, condition + 1, a, "any"), yes + " | " + no);
    }

    private static void results() {
        String test = "48 85 C0";
        result(test, 4, "0 20 4", "4 20 4, any", "0, any");
        result(test, 4, "-20 0 4", "-20 -4 4, any", "0, any");
        result(test, 4, "0", "-", "0, any");
        result(test, 4, "1 3 2", "1 3 2, any", "-");
        result(test, 4, "any", "any, any", "0, any");
        result(test, 8, "-20 20 4", "0 20 4, any", "-20 -4 4, any");
        result(test, 8, "0 20 4", "0 20 4, any", "-");
        result(test, 8, "-3", "-", "-3, any");
        result(test, 8, "any", "any, any", "any, any");
        for (int condition : new int[] {0, 2, 6, 12, 14}) {
            result(test, condition, "-20 20 4", "-20 20 4, any", "-20 20 4, any");
        }
        result("48 83 E8 04", 4, "0 20 4", "-4 16 4, any", "0, any");
        result("48 83 E8 04", 8, "0 20 4", "0 16 4, any", "-4, any");
    }

    private static void conditionsThatTellNothing() {
        compared(0, "0 20 4", "8", "0 20 4, 8", "0 20 4, 8");
        compared(8, "0 20 4", "8", "0 20 4, 8", "0 20 4, 8");
    }

    /** Whether an equal jump behind these bytes tells something of location 0, which holds 0 20 4 there. */
    private static void tells(String flags, String set, String want) {
        Bench.due("je behind " + flags, Bench.edges(flags, 4, set, "any"), want);
    }

    private static void whereFlagsComeFrom() {
        String nothing = "0 20 4, any | 0 20 4, any";
        String zero = "4 20 4, any | 0, any";
        tells("", "0 20 4", nothing);
        tells("48 83 C0 04", "-4 16 4", zero);
        tells("48 83 E8 04", "4 24 4", zero);
        tells("48 FF C0", "-1 19 4", zero);
        tells("48 FF C8", "1 21 4", zero);
        tells("48 F7 D8", "-20 0 4", zero);
        tells("48 85 C0", "0 20 4", zero);
        tells("48 83 F8 00", "0 20 4", zero);
        tells("48 83 E0 7F", "0 20 4", "1 20 1, any | 0, any");
        tells("48 83 C8 00", "0 20 4", "1 31 1, any | 0, any");
        tells("48 83 F0 00", "0 20 4", "1 31 1, any | 0, any");
        tells("48 31 C0", "0 20 4", "- | 0, any");
        tells("48 85 C8", "0 20 4", nothing);
        tells("48 F7 C0 FF FF FF FF", "0 20 4", nothing);
        tells("48 39 C0", "0 20 4", nothing);
        tells("83 F8 00", "0 20 4", nothing);
        tells("85 C0", "0 20 4", nothing);
        tells("83 C0 00", "0 20 4", nothing);
        tells("29 C0", "0 20 4", "0, any | 0, any");
        tells("48 C1 E0 00", "0 20 4", nothing);
        tells("48 C1 E8 00", "0 20 4", nothing);
        tells("48 C1 F8 00", "0 20 4", nothing);
        tells("48 85 C0 48 C1 E3 01", "0 20 4", nothing);
        tells("48 85 C0 48 0F AF D9", "0 20 4", nothing);
        tells("48 85 C0 83 C3 00", "0 20 4", nothing);
        tells("48 85 C0 48 FF C3", "0 20 4", nothing);
        tells("48 85 C0 48 85 DB", "0 20 4", nothing);
    }

    private static void whatTakesARecordAway() {
        String nothing = "0 20 4, any | 0 20 4, any";
        String zero = "4 20 4, any | 0, any";
        tells("48 85 C0 90", "0 20 4", zero);
        tells("48 85 C0 EB 00", "0 20 4", zero);
        tells("48 85 C0 48 89 C3", "0 20 4", zero);
        tells("48 85 C0 48 F7 D1", "0 20 4", zero);
        tells("48 85 C0 48 63 D9", "0 20 4", zero);
        tells("48 85 C0 48 89 C0", "0 20 4", nothing);
        tells("48 85 C0 48 F7 D0 48 F7 D0", "0 20 4", nothing);
        tells("48 85 C0 48 63 C0", "0 20 4", nothing);
        Bench.due("mov of y behind cmp", Bench.edges("48 39 C8 48 89 D1", 4, "0 20 4", "8"), "0 20 4, any | 0 20 4, any");
        Bench.due("mov of another behind cmp", Bench.edges("48 39 C8 48 89 CA", 4, "0 20 4", "8"), "0 20 4, 8 | 8, 8");
        Bench.due("two jumps behind one cmp", Bench.edges("48 39 C8 7C 7F", 4, "0 20 4", "8"), "12 20 4, 8 | 8, 8");
    }

    private static void recordsThatMeet() {
        StrideWatch watch = Bench.fed("48 85 C0 74 04 48 83 F9 05 74 01 C3 C3");
        Bench.give(watch, "0:0 10 1", "1:0 10 1");
        watch.look();
        Bench.due("points that differ in the record", watch.reached(9), 2);
        Bench.due("records that differ, not taken", Bench.pair(watch, 11), "0 10 1, 0 10 1");
        Bench.due("records that differ, taken", Bench.pair(watch, 12), "0 10 1, 0 10 1");
        StrideWatch same = Bench.fed("48 85 D2 74 05 48 83 F9 05 90 48 83 F9 05 74 01 C3 C3");
        Bench.give(same, "1:0 10 1");
        same.look();
        Bench.due("records that are found again", Bench.setAt(same, 17, 1), "5");
        // CMP with 0 and a RESULT say different things, though both look at location 0 and at 0.
        StrideWatch kinds = Bench.fed("48 85 D2 74 05 48 85 C0 EB 04 48 83 F8 00 74 01 C3 C3");
        Bench.give(kinds, "0:0 10 1");
        kinds.look();
        Bench.due("a result and a cmp, not taken", Bench.setAt(kinds, 16, 0), "0 10 1");
        Bench.due("a result and a cmp, taken", Bench.setAt(kinds, 17, 0), "0 10 1");
    }
}
