import java.util.TreeSet;

/** Edges of INSTRUCTIONS and of promises 6 and 7; each method has one sentence of the document. */
public final class InstructionEdgesTest {
    private static final int NONE = StrideWatch.NONE;
    private static final int[] ARITHMETIC = {0, 1, NONE, NONE, 4, 5, 6, 7};

    public static void main(String[] args) {
        perhapsOneRex();
        theBitsOfRex();
        everyPlace();
        everyByteOfAStackPlace();
        constantsOfOneByte();
        constantsOfFourBytes();
        constantsOfEightBytes();
        everyArithmeticByte();
        everyExtension();
        shiftsByTheLowestBits();
        signIsWideAndOfRegisters();
        everyCondition();
        whereJumpsGo();
        anyOtherByte();
        anyOtherSecondByte();
        rspAndRbpGetNothing();
        rspAndRbpAreRead();
        bytesBeyondTheCode();
        bytesBeyondAFullCode();
        whatIsToldFromNineteenOn();
        allIsNoneOfBad();
        oneBehindAnother();
        numbersThatAreNoWhat();
        Bench.end();
    }

    private static void is(String hex, String want) {
        Bench.due("decode of " + hex, Bench.told(hex), want);
    }

    private static void bad(String hex) {
        is(hex, Bench.BAD);
    }

    private static int operation(String hex) {
        return Bench.fed(hex).decode(0, 1);
    }

    /** "perhaps one REX (40 to 4F in hexadecimal digits, bit 1 being 0)" */
    private static void perhapsOneRex() {
        for (int rex = 0x40; rex <= 0x4F; rex++) {
            Bench.due("rex " + Bench.hex(rex), Bench.isBad(Bench.hex(rex) + "01 C8"), (rex & 2) != 0);
            for (int second = 0x40; second <= 0x4F; second++) {
                bad(Bench.hex(rex) + Bench.hex(second) + "01 C8");
            }
        }
        bad("3F 01 C8");
        bad("50 01 C8");
        is("01 C8", "2 0 32 0 1 0 0");
        is("48 90", "2 21 0 -1 -1 0 0");
        bad("48");
        bad("40");
    }

    /** "with W the WIDTH is 64, else 32"; "reg (with R) a register, rm (with B) another LOCATION" */
    private static void theBitsOfRex() {
        for (int bits = 0; bits < 16; bits++) {
            if ((bits & 2) != 0) {
                continue;
            }
            int width = bits >= 8 ? 64 : 32;
            int more = (bits & 4) != 0 ? 8 : 0;
            int far = (bits & 1) != 0 ? 8 : 0;
            String rex = Bench.hex(0x40 + bits);
            is(rex + "01 FE", "3 0 " + width + " " + (6 + far) + " " + (7 + more) + " 0 0");
            is(rex + "03 FE", "3 0 " + width + " " + (7 + more) + " " + (6 + far) + " 0 0");
            is(rex + "83 C7 01", "4 0 " + width + " " + (7 + far) + " -1 0 1");
            is(rex + "BF 01 00 00 00" + (width == 64 ? "00 00 00 00" : ""),
                (width == 64 ? 10 : 6) + " 13 " + width + " " + (7 + far) + " -1 0 1");
        }
    }

    /** "for mod 3 a register, for mod 1, rm 5, without B and with W: a place of the stack ..; all else is BAD" */
    private static void everyPlace() {
        for (String rex : new String[] {"40", "41", "44", "45", "48", "49", "4C", "4D"}) {
            int bits = Integer.parseInt(rex, 16);
            for (int form = 0; form < 256; form++) {
                boolean register = form >= 0xC0;
                boolean stack = (form & 0xC7) == 0x45 && (bits & 9) == 8;
                String hex = rex + "39" + Bench.hex(form) + "F8 00 00 00 00 00";
                Bench.due("is " + hex + " bad", Bench.isBad(hex), !register && !stack);
                if (register || stack) {
                    int other = register ? (form & 7) + (bits & 1) * 8 : 16;
                    int reg = (form >> 3 & 7) + (bits & 4) * 2;
                    is(hex, (stack ? 4 : 3) + " 7 " + (bits >= 0x48 ? 64 : 32) + " " + other + " " + reg + " 0 0");
                }
            }
        }
    }

    /** "told by one byte behind, -8 .. -64": the eight of "rbp - 8, rbp - 16, .. rbp - 64" */
    private static void everyByteOfAStackPlace() {
        for (int offset = -128; offset < 128; offset++) {
            boolean place = offset >= -64 && offset <= -8 && offset % 8 == 0;
            String hex = Bench.hex(offset);
            String location = " " + (15 - offset / 8) + " ";
            is("48 89 45" + hex, place ? "4 13 64" + location + "0 0 0" : Bench.BAD);
            is("48 8B 45" + hex, place ? "4 13 64 0" + location + "0 0" : Bench.BAD);
            is("48 83 45" + hex + "7F", place ? "5 0 64" + location + "-1 0 127" : Bench.BAD);
            is("48 0F AF 45" + hex, place ? "5 17 64 0" + location + "0 0" : Bench.BAD);
        }
    }

    /** "i1 .. constants of so many bytes .. with a sign" */
    private static void constantsOfOneByte() {
        for (int number = -128; number < 128; number++) {
            String hex = Bench.hex(number);
            is("48 83 C0" + hex, "4 0 64 0 -1 0 " + number);
            is("83 C0" + hex, "3 0 32 0 -1 0 " + number);
            is("EB" + hex, "2 20 0 -1 -1 0 " + (2 + number));
            is("74" + hex, "2 19 0 -1 -1 4 " + (2 + number));
        }
    }

    /** "i4 .. the lowest first, with a sign" */
    private static void constantsOfFourBytes() {
        String[][] rows = {{"00 00 00 00", "0"}, {"01 00 00 00", "1"}, {"00 01 00 00", "256"}, {"00 00 01 00", "65536"},
            {"00 00 00 01", "16777216"}, {"FF FF FF 7F", "2147483647"}, {"00 00 00 80", "-2147483648"},
            {"FF FF FF FF", "-1"}, {"01 02 03 04", "67305985"}, {"80 00 00 00", "128"}};
        for (String[] row : rows) {
            is("48 81 C0" + row[0], "7 0 64 0 -1 0 " + row[1]);
            is("81 C0" + row[0], "6 0 32 0 -1 0 " + row[1]);
            is("48 C7 C0" + row[0], "7 13 64 0 -1 0 " + row[1]);
            is("C7 C0" + row[0], "6 13 32 0 -1 0 " + row[1]);
            is("48 F7 C0" + row[0], "7 8 64 0 -1 0 " + row[1]);
            is("F7 C0" + row[0], "6 8 32 0 -1 0 " + row[1]);
            is("B8" + row[0], "5 13 32 0 -1 0 " + row[1]);
            is("E9" + row[0], "5 20 0 -1 -1 0 " + (5 + Long.parseLong(row[1])));
            is("0F 84" + row[0], "6 19 0 -1 -1 4 " + (6 + Long.parseLong(row[1])));
        }
    }

    /** "i8": of "B8 + r" with W alone */
    private static void constantsOfEightBytes() {
        String[][] rows = {{"00 00 00 00 00 00 00 80", "" + Long.MIN_VALUE}, {"FF FF FF FF FF FF FF 7F", "" + Long.MAX_VALUE},
            {"FF FF FF FF FF FF FF FF", "-1"}, {"00 00 00 00 01 00 00 00", "4294967296"}, {"00 00 00 80 00 00 00 00", "2147483648"},
            {"01 02 03 04 05 06 07 08", "578437695752307201"}};
        for (String[] row : rows) {
            is("48 B8" + row[0], "10 13 64 0 -1 0 " + row[1]);
            is("49 BF" + row[0], "10 13 64 15 -1 0 " + row[1]);
        }
    }

    /** "8 k + 1, M .. 8 k + 3, M .. 2, 3 are BAD" */
    private static void everyArithmeticByte() {
        for (int first = 0; first < 0x40; first++) {
            int column = first & 7;
            int want = column == 1 || column == 3 ? ARITHMETIC[first >> 3] : NONE;
            Bench.due("operation of " + Bench.hex(first), operation("48" + Bench.hex(first) + "C8"), want);
            if (want != NONE) {
                is(Bench.hex(first) + "C8", "2 " + want + " 32 " + (column == 1 ? "0 1" : "1 0") + " 0 0");
            }
        }
    }

    /** "k being reg without R"; "another k .. BAD" */
    private static void everyExtension() {
        int[][] rows = {{0x81, 0, 1, NONE, NONE, 4, 5, 6, 7}, {0x83, 0, 1, NONE, NONE, 4, 5, 6, 7},
            {0xF7, 8, NONE, 9, 10, NONE, NONE, NONE, NONE}, {0xFF, 11, 12, NONE, NONE, NONE, NONE, NONE, NONE},
            {0xC7, 13, NONE, NONE, NONE, NONE, NONE, NONE, NONE}, {0xC1, NONE, NONE, NONE, NONE, 14, 15, NONE, 16}};
        for (int[] row : rows) {
            for (int k = 0; k < 8; k++) {
                String opcode = Bench.hex(row[0]);
                for (String rex : new String[] {"", "44", "48", "4C"}) {
                    String hex = rex + opcode + Bench.hex(0xC1 + 8 * k) + "01 00 00 00";
                    Bench.due("operation of " + hex, operation(hex), row[1 + k]);
                }
                String stack = "48" + opcode + Bench.hex(0x45 + 8 * k) + "C0 01 00 00 00";
                Bench.due("operation of " + stack, operation(stack), row[1 + k]);
                String withR = "4C" + opcode + Bench.hex(0x45 + 8 * k) + "C0 01 00 00 00";
                Bench.due("operation of " + withR, operation(withR), row[1 + k]);
            }
        }
    }

    /** "by that, its lowest 6 bits (5 with WIDTH 32)"; the constant is the i1 as it stands, with its sign. */
    private static void shiftsByTheLowestBits() {
        int[][] operations = {{0xE1, 14}, {0xE9, 15}, {0xF9, 16}};
        for (int[] row : operations) {
            for (int i = -128; i < 128; i++) {
                String rest = "C1" + Bench.hex(row[0]) + Bench.hex(i);
                is("48" + rest, "4 " + row[1] + " 64 1 -1 " + (i & 63) + " " + i);
                is(rest, "3 " + row[1] + " 32 1 -1 " + (i & 31) + " " + i);
            }
        }
    }

    /** "63, M with W, mod 3" */
    private static void signIsWideAndOfRegisters() {
        is("48 63 C8", "3 18 64 1 0 0 0");
        is("4D 63 FF", "3 18 64 15 15 0 0");
        bad("63 C8");
        bad("40 63 C8");
        bad("45 63 C8");
        for (int offset = -64; offset <= -8; offset += 8) {
            bad("48 63 4D" + Bench.hex(offset));
        }
        bad("48 63 08");
        bad("48 63 88 00 00 00 00");
    }

    /** "JUMP IF c, c not 10, 11" */
    private static void everyCondition() {
        for (int c = 0; c < 16; c++) {
            boolean none = c == 10 || c == 11;
            is(Bench.hex(0x70 + c) + "00", none ? Bench.BAD : "2 19 0 -1 -1 " + c + " 2");
            is("0F" + Bench.hex(0x80 + c) + "00 00 00 00", none ? Bench.BAD : "6 19 0 -1 -1 " + c + " 6");
            is("48" + Bench.hex(0x70 + c) + "00", none ? Bench.BAD : "3 19 0 -1 -1 " + c + " 3");
        }
    }

    /** "Jumps go to the address behind plus the constant", however far that is. */
    private static void whereJumpsGo() {
        String[][] rows = {{"EB 7F", "129"}, {"EB 80", "-126"}, {"EB FE", "0"}, {"EB FD", "-1"}, {"EB FC", "-2"},
            {"7F 7F", "129"}, {"7F 80", "-126"}, {"E9 FF FF FF 7F", "2147483652"}, {"E9 00 00 00 80", "-2147483643"},
            {"E9 FB FF FF FF", "0"}, {"0F 8F FF FF FF 7F", "2147483653"}, {"0F 8F 00 00 00 80", "-2147483642"},
            {"48 EB 00", "3"}};
        for (String[] row : rows) {
            for (int before : new int[] {0, 1, 150}) {
                StrideWatch watch = Bench.fed(Bench.nops(before) + row[0]);
                Bench.due(row[0] + " at " + before, watch.constant(before), before + Long.parseLong(row[1]));
            }
        }
        StrideWatch last = Bench.fed(Bench.nops(195) + "E9 FF FF FF 7F");
        Bench.due("a jump at 195", last.constant(195), 200 + 2147483647L);
    }

    private static String good(String before, String behind) {
        TreeSet<String> all = new TreeSet<>();
        for (int oneByte = 0; oneByte < 256; oneByte++) {
            if (!Bench.isBad(before + Bench.hex(oneByte) + behind)) {
                all.add(Bench.hex(oneByte));
            }
        }
        return String.join(" ", all);
    }

    /** "Any other byte .. BAD" */
    private static void anyOtherByte() {
        String pairs = "01 03 09 0B 21 23 29 2B 31 33 39 3B ";
        String jumps = "70 71 72 73 74 75 76 77 78 79 7C 7D 7E 7F ";
        String zeros = " 00 00 00 00 00 00 00 00";
        Bench.due("bytes with C0", good("", "C0" + zeros), pairs + jumps
            + "81 83 85 89 8B 90 B8 B9 BA BB BE BF C3 C7 E9 EB F4 F7 FF");
        Bench.due("bytes with W and C0", good("48", "C0" + zeros), pairs + "63 " + jumps
            + "81 83 85 89 8B 90 B8 B9 BA BB BE BF C3 C7 E9 EB F4 F7 FF");
        // E0 has rsp as its register, which may be compared and read, but gets nothing.
        Bench.due("bytes with B and E0", good("41", "E0" + zeros), "01 09 21 29 31 39 3B " + jumps
            + "81 83 85 89 90 B8 B9 BA BB BC BD BE BF C1 C3 E9 EB F4");
        Bench.due("bytes with W, B and F8", good("49", "F8" + zeros), pairs + "63 " + jumps
            + "81 83 85 89 8B 90 B8 B9 BA BB BC BD BE BF C1 C3 E9 EB F4");
    }

    /** The same behind 0F. */
    private static void anyOtherSecondByte() {
        String jumps = "80 81 82 83 84 85 86 87 88 89 8C 8D 8E 8F";
        for (String rex : new String[] {"", "40", "48", "4D"}) {
            Bench.due("bytes behind " + rex + " 0F", good(rex + "0F", "C0 00 00 00 00"), jumps + " AF");
        }
        bad("0F 48 AF C0");
        bad("0F 0F AF C0");
        bad("AF C0");
    }

    /** "rsp or rbp getting something .. BAD" */
    private static void rspAndRbpGetNothing() {
        for (int target = 4; target <= 5; target++) {
            String asPlace = Bench.hex(0xC0 + target);
            String asRegister = Bench.hex(0xC0 + 8 * target);
            for (String rex : new String[] {"40", "48"}) {
                for (int k : new int[] {0, 1, 4, 5, 6}) {
                    bad(rex + Bench.hex(8 * k + 1) + asPlace);
                    bad(rex + Bench.hex(8 * k + 3) + asRegister);
                    bad(rex + "83" + Bench.hex(0xC0 + 8 * k + target) + "00");
                    bad(rex + "81" + Bench.hex(0xC0 + 8 * k + target) + "00 00 00 00");
                }
                bad(rex + "89" + asPlace);
                bad(rex + "8B" + asRegister);
                bad(rex + "C7" + asPlace + "00 00 00 00");
                bad(rex + Bench.hex(0xB8 + target) + "00 00 00 00 00 00 00 00");
                bad(rex + "F7" + Bench.hex(0xD0 + target));
                bad(rex + "F7" + Bench.hex(0xD8 + target));
                bad(rex + "FF" + Bench.hex(0xC0 + target));
                bad(rex + "FF" + Bench.hex(0xC8 + target));
                bad(rex + "C1" + Bench.hex(0xE0 + target) + "00");
                bad(rex + "C1" + Bench.hex(0xE8 + target) + "00");
                bad(rex + "C1" + Bench.hex(0xF8 + target) + "00");
                bad(rex + "0F AF" + asRegister);
            }
            bad("48 63" + asRegister);
        }
        StrideWatch watch = Bench.started("48 FF C4");
        Bench.due("go where rsp gets something", watch.go(1), 2);
        Bench.due("rsp behind it", watch.value(4), 0);
    }

    /** They may be read, compared and tested; with R or B they are others, r12 and r13. */
    private static void rspAndRbpAreRead() {
        for (int location = 4; location <= 5; location++) {
            String asPlace = Bench.hex(0xC0 + location);
            String asRegister = Bench.hex(0xC0 + 8 * location);
            is("48 39" + asPlace, "3 7 64 " + location + " 0 0 0");
            is("48 3B" + asRegister, "3 7 64 " + location + " 0 0 0");
            is("48 83" + Bench.hex(0xF8 + location) + "05", "4 7 64 " + location + " -1 0 5");
            is("48 81" + Bench.hex(0xF8 + location) + "05 00 00 00", "7 7 64 " + location + " -1 0 5");
            is("48 85" + asPlace, "3 8 64 " + location + " 0 0 0");
            is("48 F7" + asPlace + "05 00 00 00", "7 8 64 " + location + " -1 0 5");
            is("48 01" + asRegister, "3 0 64 0 " + location + " 0 0");
            is("48 03" + asPlace, "3 0 64 0 " + location + " 0 0");
            is("48 63" + asPlace, "3 18 64 0 " + location + " 0 0");
            is("48 0F AF" + asPlace, "4 17 64 0 " + location + " 0 0");
            is("49 01" + asPlace, "3 0 64 " + (location + 8) + " 0 0 0");
            is("4C 03" + asRegister, "3 0 64 " + (location + 8) + " 0 0 0");
            is("41" + Bench.hex(0xB8 + location) + "05 00 00 00", "6 13 32 " + (location + 8) + " -1 0 5");
            is("4C 63" + asRegister, "3 18 64 " + (location + 8) + " 0 0 0");
        }
    }

    private static final String[] WHOLE = {"90", "C3", "F4", "01 C8", "48 01 C8", "48 03 4D C0", "83 C0 01", "48 83 C0 01",
        "81 C0 01 00 00 00", "48 81 45 F8 01 00 00 00", "85 C0", "F7 C0 01 00 00 00", "48 F7 D0", "F7 D8", "FF C0",
        "48 FF 4D F8", "89 C8", "48 89 45 F8", "8B C8", "48 8B 45 F8", "C7 C0 01 00 00 00", "48 C7 45 F8 01 00 00 00",
        "B8 01 02 03 04", "48 B8 01 02 03 04 05 06 07 08", "C1 E0 01", "48 C1 F8 01", "48 C1 6D F8 01", "0F AF C1",
        "48 0F AF 45 F8", "48 63 C1", "74 00", "0F 84 00 00 00 00", "EB 00", "E9 00 00 00 00"};

    /** "bytes beyond the CODE: BAD" */
    private static void bytesBeyondTheCode() {
        for (String hex : WHOLE) {
            int[] bytes = Bench.bytes(hex);
            Bench.due("length of " + hex, Bench.fed(hex).decode(0, 0), bytes.length);
            for (int less = 1; less < bytes.length; less++) {
                bad(hex.replace(" ", "").substring(0, 2 * less));
            }
        }
    }

    /** The same at the end of 200 bytes. */
    private static void bytesBeyondAFullCode() {
        for (String hex : WHOLE) {
            int length = Bench.bytes(hex).length;
            StrideWatch whole = Bench.fed(Bench.nops(200 - length) + hex);
            Bench.due("length at the end of 200, of " + hex, whole.decode(200 - length, 0), length);
            for (int less = 1; less < length; less++) {
                String part = hex.replace(" ", "").substring(0, 2 * less);
                StrideWatch watch = Bench.fed(Bench.nops(200 - less) + part);
                Bench.due("at the end of 200: " + part, Bench.told(watch, 200 - less), Bench.BAD);
                watch.start();
                Bench.due("go at the end of 200: " + part, watch.go(1000), 2);
                Bench.due("at the end of 200: " + part, watch.at(), 200 - less);
            }
        }
    }

    /** "2 WIDTH (0 from 19 on), 3 .. (NONE from 19 on), 4 .. (NONE without), 5 .. (0 else)" */
    private static void whatIsToldFromNineteenOn() {
        for (String rex : new String[] {"", "40", "48", "4D"}) {
            int more = rex.isEmpty() ? 0 : 1;
            is(rex + "7F 00", 2 + more + " 19 0 -1 -1 15 " + (2 + more));
            is(rex + "0F 80 00 00 00 00", 6 + more + " 19 0 -1 -1 0 " + (6 + more));
            is(rex + "EB 00", 2 + more + " 20 0 -1 -1 0 " + (2 + more));
            is(rex + "E9 00 00 00 00", 5 + more + " 20 0 -1 -1 0 " + (5 + more));
            is(rex + "90", 1 + more + " 21 0 -1 -1 0 0");
            is(rex + "C3", 1 + more + " 22 0 -1 -1 0 0");
            is(rex + "F4", 1 + more + " 22 0 -1 -1 0 0");
        }
        is("48 63 C1", "3 18 64 0 1 0 0");
        is("F7 D0", "2 9 32 0 -1 0 0");
        is("F7 D8", "2 10 32 0 -1 0 0");
        is("FF C0", "2 11 32 0 -1 0 0");
        is("FF C8", "2 12 32 0 -1 0 0");
    }

    /** "NONE if it is BAD"; "0 .. if it is BAD", though a constant or a condition stands there. */
    private static void allIsNoneOfBad() {
        for (String hex : new String[] {"06", "48 83 C4 08", "83 D0 05", "7A 05", "0F 8B 05 00 00 00", "48 C1 E4 05", "C1 F0 05",
            "BC 05 00 00 00", "C7 C8 05 00 00 00", "F7 C8 05 00 00 00", "48 89 45 F9", "48 83 45 00 05", "E9 05 00 00"}) {
            bad(hex);
        }
    }

    /** What is told of an instruction does not hang on what was told of another one before. */
    private static void oneBehindAnother() {
        String[] others = {"06", "48 C1 E0 3F", "7F 05", "48 83 C0 05", "48 89 45 C0", "83 C4 05", "C1 F0 05", "48 63 C1"};
        for (String first : others) {
            for (String second : WHOLE) {
                StrideWatch watch = Bench.fed(first + second);
                int length = Bench.bytes(first).length;
                // A jump goes elsewhere here, as it stands elsewhere.
                boolean jump = second.startsWith("7") || second.startsWith("E") || second.startsWith("0F 8");
                String alone = Bench.told(second);
                String want = jump ? alone.substring(0, alone.lastIndexOf(' ') + 1) + (length + Bench.bytes(second).length) : alone;
                Bench.told(watch, 0);
                Bench.due(second + " behind " + first, Bench.told(watch, length), want);
                Bench.due(first + " before " + second, Bench.told(watch, 0), Bench.told(first));
            }
        }
    }

    /** "IllegalArgument: .. another what" */
    private static void numbersThatAreNoWhat() {
        StrideWatch watch = Bench.fed("90 06");
        for (int what : new int[] {-1, 6, 7, Integer.MIN_VALUE, Integer.MAX_VALUE}) {
            Bench.argument("decode of " + what, () -> watch.decode(0, what));
            Bench.argument("decode of " + what + " where it is bad", () -> watch.decode(1, what));
            Bench.argument("decode of " + what + " where no byte is", () -> watch.decode(2, what));
        }
        Bench.due("decode of 0", watch.decode(0, 0), 1);
        Bench.due("decode of 5", watch.decode(0, 5), 0);
    }
}
