/** Promises 8 and 10: what each operation makes of SETS. */
public final class SetAlgebraTest {
    private static final long B = 1L << 61;
    private static final long TWO_30 = 1L << 30;
    private static final long TWO_31 = 1L << 31;
    private static final long TWO_32 = 1L << 32;

    public static void main(String[] args) {
        sums();
        negatives();
        products();
        leftShifts();
        ands();
        orsAndXors();
        signedShifts();
        unsignedShifts();
        moves();
        lowHalves();
        signExtensions();
        halfWidth();
        ofItself();
        onlyTheTargetChanges();
        Bench.end();
    }

    /** Location 0 holds the set a, location 1 the set b: what location 0 holds behind the code. */
    private static void is(String hex, String a, String b, String want) {
        Bench.due(hex + " of " + a + ", " + b, Bench.behind(hex, "0:" + a, "1:" + b), want);
    }

    private static void is(String hex, String a, String want) {
        is(hex, a, "any", want);
    }

    private static void sums() {
        String add = "48 01 C8";
        is(add, "10 90 8", "1", "11 91 8");
        is(add, "10 90 8", "0 12 12", "10 102 4");
        is(add, "10 90 8", "-5 5 5", "5 95 1");
        is(add, "7", "-7", "0");
        is(add, "any", "1", "any");
        is(add, "1", "any", "any");
        is(add, "" + (B - 1), "1", "" + B);
        is(add, "" + B, "1", "any");
        is(add, "0 " + B + " 1", "0 1 1", "any");
        is(add, "-" + B, "-1", "any");
        is(add, -B + " 0 1", "" + B, "0 " + B + " 1");
        String sub = "48 29 C8";
        is(sub, "10 90 8", "1", "9 89 8");
        is(sub, "10 90 8", "0 12 12", "-2 90 4");
        is(sub, "any", "1", "any");
        is(sub, "1", "any", "any");
        is(sub, "-" + B, "1", "any");
        is("48 83 C0 FF", "0 8 4", "-1 7 4");
        is("48 81 E8 00 00 00 80", "0 8 4", TWO_31 + " " + (TWO_31 + 8) + " 4");
        is("48 FF C0", "0 8 4", "1 9 4");
        is("48 FF C8", "0 8 4", "-1 7 4");
        is("48 FF C0", "" + B, "any");
    }

    private static void negatives() {
        is("48 F7 D8", "10 90 8", "-90 -10 8");
        is("48 F7 D8", "-" + B, "" + B);
        is("48 F7 D8", "any", "any");
        is("48 F7 D0", "10 90 8", "-91 -11 8");
        is("48 F7 D0", "-1", "0");
        is("48 F7 D0", "" + B, "any");
        is("48 F7 D0", "-" + B, "" + (B - 1));
        is("48 F7 D0", "any", "any");
    }

    private static void products() {
        String mul = "48 0F AF C1";
        is(mul, "0", "any", "0");
        is(mul, "any", "0", "0");
        is(mul, "any", "1", "any");
        is(mul, "any", "any", "any");
        is(mul, "2 10 4", "3", "6 30 12");
        is(mul, "2 10 4", "-3", "-30 -6 12");
        is(mul, "-2 3 1", "-5 7 2", "-15 21 1");
        is(mul, "4 12 8", "6 18 12", "24 216 48");
        is(mul, "-5 -2 3", "3 7 4", "-35 -6 1");
        is(mul, "3 7 4", "-5 -2 3", "-35 -6 1");
        is(mul, "-5 -2 3", "-7 -3 4", "6 35 1");
        is(mul, "" + TWO_30, "" + TWO_30, "" + (1L << 60));
        is(mul, "" + TWO_30, "-" + TWO_30, "-" + (1L << 60));
        is(mul, "" + (TWO_30 + 1), "1", "any");
        is(mul, "1", "" + (-TWO_30 - 1), "any");
        is(mul, "0 " + (TWO_30 + 1) + " 1", "0", "0");
    }

    private static void leftShifts() {
        is("48 C1 E0 03", "1 9 4", "8 72 32");
        is("48 C1 E0 00", "1 9 4", "1 9 4");
        is("48 C1 E0 00", "0 " + (TWO_30 + 1) + " 1", "any");
        is("48 C1 E0 1E", "1", "" + TWO_30);
        is("48 C1 E0 1E", "0", "0");
        is("48 C1 E0 1F", "1", "any");
        is("48 C1 E0 1F", "0", "any");
        is("48 C1 E0 41", "3", "6");
        is("48 C1 E0 01", "any", "any");
    }

    private static void ands() {
        String and = "48 21 C8";
        is(and, "-4", "7", "4");
        is(and, "any", "24", "0 24 8");
        is(and, "24", "any", "0 24 8");
        is(and, "any", "-8", "any");
        is(and, "any", "any", "any");
        is(and, "any", "0 100 4", "0 100 1");
        is(and, "0 1000 1", "256", "0 256 256");
        is(and, "0 100 1", "256", "0 100 1");
        is(and, "0 96 8", "-16", "0 96 1");
        is(and, "-8 8 8", "12", "0 12 4");
        is(and, "-8 8 8", "-1", "any");
        is(and, "-8 8 8", "0", "0");
        is(and, "0 8 8", "8", "0 8 8");
        is(and, "0 60 1", "0 50 1", "0 50 1");
        is(and, "8 16 8", "0 8 4", "0 8 1");
        is(and, "0 8 4", "8 16 8", "0 8 1");
        is(and, "256", "0 100 1", "0 100 1");
        is("48 83 E0 F0", "any", "any");
        is("48 83 E0 70", "any", "0 112 16");
    }

    private static void orsAndXors() {
        String or = "48 09 C8";
        String xor = "48 31 C8";
        is(or, "-8", "3", "-5");
        is(xor, "-8", "3", "-5");
        is(or, "10 90 8", "15", "15 127 1");
        is(xor, "10 90 8", "15", "0 127 1");
        is(or, "0 64 64", "3", "3 127 1");
        is(or, "0 1 1", "3", "3");
        is(xor, "0 1 1", "3", "0 3 1");
        is(or, "-1 1 1", "3", "any");
        is(xor, "0 1 1", "-3", "any");
        is(or, "any", "0", "any");
        is(xor, "0", "any", "any");
        is(or, "0 " + (B - 1) + " 1", "1", "1 " + (B - 1) + " 1");
        is(or, "0 " + B + " 1", "1", "any");
        is(xor, "0 " + B + " " + B, "1", "any");
        is(or, "" + B, "1", "any");
        is(xor, "" + B, "-1", "any");
        is("48 83 C8 0F", "10 90 8", "15 127 1");
        is("48 83 F0 0F", "10 90 8", "0 127 1");
    }

    private static void signedShifts() {
        is("48 C1 F8 02", "-16 16 8", "-4 4 2");
        is("48 C1 F8 02", "-15 17 8", "-4 4 1");
        is("48 C1 F8 04", "0 8 8", "0");
        is("48 C1 F8 03", "0 64 8", "0 8 1");
        is("48 C1 F8 03", "0 60 4", "0 7 1");
        is("48 C1 F8 01", "-7", "-4");
        is("48 C1 F8 00", "-15 17 8", "-15 17 8");
        is("48 C1 F8 00", "any", "any");
        is("48 C1 F8 01", "any", "any");
        is("48 C1 F8 02", "any", -B + " " + (B - 1) + " 1");
        is("48 C1 F8 3F", "any", "-1 0 1");
        is("48 C1 F8 3F", "-5 5 5", "-1 0 1");
    }

    private static void unsignedShifts() {
        is("48 C1 E8 02", "0 16 8", "0 4 2");
        is("48 C1 E8 02", "1 17 8", "0 4 1");
        is("48 C1 E8 02", "-8 8 8", "any");
        is("48 C1 E8 03", "-8 8 8", "0 " + (B - 1) + " 1");
        is("48 C1 E8 3F", "-8", "0 1 1");
        is("48 C1 E8 3F", "any", "0 1 1");
        is("48 C1 E8 01", "any", "any");
        is("48 C1 E8 00", "-8 8 8", "-8 8 8");
        is("48 C1 E8 00", "any", "any");
        is("48 C1 E8 01", "" + B, "" + (B / 2));
    }

    private static void moves() {
        is("48 89 C8", "3", "10 90 8", "10 90 8");
        is("48 89 C8", "3", "any", "any");
        is("48 89 C0", "10 90 8", "10 90 8");
        is("48 C7 C0 FF FF FF FF", "any", "-1");
        is("C7 C0 FF FF FF FF", "any", "" + (TWO_32 - 1));
        is("B8 FF FF FF FF", "any", "" + (TWO_32 - 1));
        is("48 B8 00 00 00 00 00 00 00 20", "3", "" + B);
        is("48 B8 01 00 00 00 00 00 00 20", "3", "any");
        is("48 B8 00 00 00 00 00 00 00 E0", "3", "-" + B);
        is("48 B8 FF FF FF FF FF FF FF DF", "3", "any");
        is("48 B8 00 00 00 00 00 00 00 80", "3", "any");
    }

    private static void lowHalves() {
        String mov = "89 C8";
        is(mov, "any", "5 9 2", "5 9 2");
        is(mov, "any", "0 " + (TWO_32 - 1) + " 1", "0 " + (TWO_32 - 1) + " 1");
        is(mov, "any", "any", "0 " + (TWO_32 - 1) + " 1");
        is(mov, "any", "-1", "" + (TWO_32 - 1));
        is(mov, "any", "" + (TWO_32 + 5), "5");
        is(mov, "any", "-8 8 8", "0 " + (TWO_32 - 8) + " 8");
        is(mov, "any", "-7 9 8", "1 " + (TWO_32 - 7) + " 8");
        is(mov, "any", "-6 6 12", "2 " + (TWO_32 - 2) + " 4");
        is(mov, "any", "5 " + (5 + TWO_32) + " " + TWO_32, "5");
        is(mov, "any", "-5 " + (-5 + 6 * TWO_32) + " " + 3 * TWO_32, "" + (TWO_32 - 5));
        is(mov, "any", "1 " + (1 + TWO_32) + " " + TWO_31, "1 " + (1 + TWO_31) + " " + TWO_31);
        is(mov, "any", "0 " + TWO_32 + " 1", "0 " + (TWO_32 - 1) + " 1");
    }

    private static void signExtensions() {
        String sign = "48 63 C1";
        is(sign, "any", "5 9 2", "5 9 2");
        is(sign, "any", "" + (TWO_32 - 1), "-1");
        is(sign, "any", "-3", "-3");
        is(sign, "any", "any", -TWO_31 + " " + (TWO_31 - 1) + " 1");
        is(sign, "any", TWO_31 + " " + (TWO_32 - 8) + " 8", -TWO_31 + " -8 8");
        is(sign, "any", "0 " + TWO_31 + " " + TWO_31, -TWO_31 + " 0 " + TWO_31);
        is(sign, "any", "4 " + (4 + TWO_31) + " 8", -TWO_31 + 4 + " " + (TWO_31 - 4) + " 8");
        is(sign, "any", "-9 3 12", -TWO_31 + 3 + " " + (TWO_31 - 1) + " 4");
        is(sign, "any", "0 " + (TWO_31 - 1) + " 1", "0 " + (TWO_31 - 1) + " 1");
        is(sign, "any", "1 " + (TWO_31 + 2) + " 3", -TWO_31 + " " + (TWO_31 - 1) + " 1");
    }

    private static void halfWidth() {
        is("01 C8", "10 90 8", "1", "11 91 8");
        is("01 C8", "any", "1", "0 " + (TWO_32 - 1) + " 1");
        is("01 C8", "" + (TWO_32 - 1), "1", "0");
        is("83 C0 FF", "8 16 8", "7 " + (TWO_32 - 1) + " 8");
        is("83 E8 01", "0 256 256", "255 " + (TWO_32 - 1) + " 256");
        is("F7 D8", "4 8 4", "0 " + (TWO_32 - 4) + " 4");
        is("F7 D8", "1", "" + (TWO_32 - 1));
        is("F7 D0", "0 8 8", "7 " + (TWO_32 - 1) + " 8");
        is("F7 D0", "0", "" + (TWO_32 - 1));
        is("FF C0", "-1", "0");
        is("FF C8", "0", "" + (TWO_32 - 1));
        is("83 E0 F0", "any", "0 " + (TWO_32 - 16) + " 16");
        is("83 C8 01", "-4", "" + (TWO_32 - 3));
        is("83 F0 FF", "5", "" + (TWO_32 - 6));
        is("C1 E0 04", "1 3 2", "16 48 32");
        is("C1 E0 1F", "1", "0 " + (TWO_32 - 1) + " 1");
        is("C1 E0 01", "-1", "0 " + (TWO_32 - 1) + " 1");
        is("C1 E8 04", "any", "0 " + ((1L << 28) - 1) + " 1");
        is("C1 E8 1C", "-1", "15");
        is("C1 E8 20", "-1", "" + (TWO_32 - 1));
        is("C1 F8 04", "-16", "" + (TWO_32 - 1));
        is("C1 F8 04", "" + TWO_31, "" + (TWO_32 - (1L << 27)));
        is("C1 F8 01", "any", "0 " + (TWO_32 - 1) + " 1");
        is("C1 F8 04", "32 64 32", "2 4 2");
        is("C1 F8 00", "-8 8 8", "0 " + (TWO_32 - 8) + " 8");
        is("0F AF C1", "-3", "5", "" + (TWO_32 - 15));
        is("0F AF C1", "2 10 4", "3", "6 30 12");
        is("0F AF C1", "any", "3", "0 " + (TWO_32 - 1) + " 1");
        is("0F AF C1", "any", "" + TWO_32, "0");
    }

    private static void ofItself() {
        for (String set : new String[] {"any", "10 90 8", "-3"}) {
            is("48 31 C0", set, "0");
            is("48 29 C0", set, "0");
            is("48 2B C0", set, "0");
            is("33 C0", set, "0");
            is("29 C0", set, "0");
        }
        is("48 01 C0", "10 90 8", "20 180 8");
        is("48 21 C0", "10 90 8", "0 90 1");
        is("48 09 C0", "10 90 8", "10 127 1");
        is("48 0F AF C0", "-2 2 2", "-4 4 4");
    }

    private static void onlyTheTargetChanges() {
        for (String hex : new String[] {"48 39 C8", "48 85 C8", "39 C8", "85 C8", "48 83 F8 01", "F7 C0 01 00 00 00",
            "90", "48 01 C3", "48 89 45 F8"}) {
            is(hex, "10 90 8", "3", "10 90 8");
        }
        StrideWatch watch = Bench.fed("48 89 45 F0 48 8B 4D F0 48 FF 45 F0 C3");
        Bench.give(watch, "0:10 90 8", "1:1", "16:7");
        watch.look();
        Bench.due("a place of the stack", Bench.setAt(watch, 4, 17), "10 90 8");
        Bench.due("the place beside it", Bench.setAt(watch, 4, 16), "7");
        Bench.due("read from the stack", Bench.setAt(watch, 8, 1), "10 90 8");
        Bench.due("inc on the stack", Bench.setAt(watch, 12, 17), "11 91 8");
    }
}
