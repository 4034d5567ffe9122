/** Promises 6 and 7: decode and constant. */
public final class DecodeTest {
    private static final int NONE = StrideWatch.NONE;

    public static void main(String[] args) {
        pairs();
        constants();
        others();
        jumps();
        stackPlaces();
        prefixes();
        whatIsBad();
        everySingleByte();
        cutOff();
        wrongNumbers();
        Bench.end();
    }

    private static void is(String hex, long... want) {
        StringBuilder all = new StringBuilder();
        for (int i = 0; i < want.length; i++) {
            all.append(i == 0 ? "" : " ").append(want[i]);
        }
        Bench.due("decode of " + hex, Bench.told(hex), all.toString());
    }

    private static void bad(String hex) {
        is(hex, NONE, NONE, NONE, NONE, NONE, NONE, 0);
    }

    private static void pairs() {
        is("01 C8", 2, 0, 32, 0, 1, 0, 0);
        is("03 C8", 2, 0, 32, 1, 0, 0, 0);
        is("48 09 C8", 3, 1, 64, 0, 1, 0, 0);
        is("48 0B C8", 3, 1, 64, 1, 0, 0, 0);
        is("48 21 D3", 3, 4, 64, 3, 2, 0, 0);
        is("48 23 D3", 3, 4, 64, 2, 3, 0, 0);
        is("4C 29 C8", 3, 5, 64, 0, 9, 0, 0);
        is("4C 2B C8", 3, 5, 64, 9, 0, 0, 0);
        is("49 31 C8", 3, 6, 64, 8, 1, 0, 0);
        is("49 33 C8", 3, 6, 64, 1, 8, 0, 0);
        is("45 39 FF", 3, 7, 32, 15, 15, 0, 0);
        is("45 3B F7", 3, 7, 32, 14, 15, 0, 0);
        is("48 85 CA", 3, 8, 64, 2, 1, 0, 0);
        is("89 C8", 2, 13, 32, 0, 1, 0, 0);
        is("8B C8", 2, 13, 32, 1, 0, 0, 0);
        is("0F AF C1", 3, 17, 32, 0, 1, 0, 0);
        is("4C 0F AF C9", 4, 17, 64, 9, 1, 0, 0);
        is("48 63 C1", 3, 18, 64, 0, 1, 0, 0);
    }

    private static void constants() {
        is("83 C1 FF", 3, 0, 32, 1, NONE, 0, -1);
        is("48 83 C9 7F", 4, 1, 64, 1, NONE, 0, 127);
        is("48 83 E1 80", 4, 4, 64, 1, NONE, 0, -128);
        is("81 E9 01 00 00 80", 6, 5, 32, 1, NONE, 0, -2147483647);
        is("49 81 F0 FF FF FF 7F", 7, 6, 64, 8, NONE, 0, 2147483647);
        is("83 FC 05", 3, 7, 32, 4, NONE, 0, 5);
        is("F7 C2 04 03 02 01", 6, 8, 32, 2, NONE, 0, 0x01020304);
        is("C7 C2 04 03 02 81", 6, 13, 32, 2, NONE, 0, 0xFFFFFFFF81020304L);
        is("BA 04 03 02 01", 5, 13, 32, 2, NONE, 0, 0x01020304);
        is("41 BC FF FF FF FF", 6, 13, 32, 12, NONE, 0, -1);
        is("49 BF 00 00 00 00 00 00 00 80", 10, 13, 64, 15, NONE, 0, Long.MIN_VALUE);
    }

    private static void others() {
        is("F7 D1", 2, 9, 32, 1, NONE, 0, 0);
        is("48 F7 D9", 3, 10, 64, 1, NONE, 0, 0);
        is("FF C1", 2, 11, 32, 1, NONE, 0, 0);
        is("49 FF C9", 3, 12, 64, 9, NONE, 0, 0);
        is("48 C1 E1 3F", 4, 14, 64, 1, NONE, 63, 63);
        is("48 C1 E9 40", 4, 15, 64, 1, NONE, 0, 64);
        is("C1 F9 21", 3, 16, 32, 1, NONE, 1, 33);
        // The constant of a shift is its i1, with a sign; what it shifts by are the lowest bits of it.
        is("48 C1 E1 FF", 4, 14, 64, 1, NONE, 63, -1);
        is("C1 E1 FF", 3, 14, 32, 1, NONE, 31, -1);
        is("90", 1, 21, 0, NONE, NONE, 0, 0);
        is("C3", 1, 22, 0, NONE, NONE, 0, 0);
        is("F4", 1, 22, 0, NONE, NONE, 0, 0);
    }

    private static void jumps() {
        for (int c = 0; c < 16; c++) {
            String digit = Integer.toHexString(c);
            if (c == 10 || c == 11) {
                bad("7" + digit + " 00");
                bad("0F 8" + digit + " 00 00 00 00");
            } else {
                is("7" + digit + " 05", 2, 19, 0, NONE, NONE, c, 7);
                is("0F 8" + digit + " FF FF FF FF", 6, 19, 0, NONE, NONE, c, 5);
            }
        }
        is("EB FE", 2, 20, 0, NONE, NONE, 0, 0);
        is("EB 80", 2, 20, 0, NONE, NONE, 0, -126);
        is("E9 00 01 00 00", 5, 20, 0, NONE, NONE, 0, 261);
        is("E9 FF FF FF 7F", 5, 20, 0, NONE, NONE, 0, 2147483652L);
        is("E9 00 00 00 80", 5, 20, 0, NONE, NONE, 0, -2147483643);
        StrideWatch watch = Bench.fed("90 90 EB 03");
        Bench.due("a jump from 2", watch.constant(2), 7);
    }

    private static void stackPlaces() {
        String[] offsets = {"F8", "F0", "E8", "E0", "D8", "D0", "C8", "C0"};
        for (int i = 0; i < 8; i++) {
            is("48 89 45 " + offsets[i], 4, 13, 64, 16 + i, 0, 0, 0);
            is("4C 8B 7D " + offsets[i], 4, 13, 64, 15, 16 + i, 0, 0);
        }
        is("48 83 45 F8 FF", 5, 0, 64, 16, NONE, 0, -1);
        is("48 81 7D F0 02 00 00 00", 8, 7, 64, 17, NONE, 0, 2);
        is("48 C7 45 C0 FE FF FF FF", 8, 13, 64, 23, NONE, 0, -2);
        is("48 C1 65 F8 03", 5, 14, 64, 16, NONE, 3, 3);
        is("48 F7 45 F8 01 00 00 00", 8, 8, 64, 16, NONE, 0, 1);
        is("48 F7 5D F8", 4, 10, 64, 16, NONE, 0, 0);
        is("48 FF 4D E8", 4, 12, 64, 18, NONE, 0, 0);
        is("48 85 45 F8", 4, 8, 64, 16, 0, 0, 0);
        is("48 0F AF 45 F8", 5, 17, 64, 0, 16, 0, 0);
        is("48 39 65 F8", 4, 7, 64, 16, 4, 0, 0);
        for (String offset : new String[] {"00", "08", "40", "7F", "80", "B8", "BF", "C1", "F9", "FF"}) {
            bad("48 89 45 " + offset);
            bad("48 8B 45 " + offset);
            bad("48 39 45 " + offset);
        }
        bad("89 45 F8");
        bad("49 89 45 F8");
        bad("48 89 44 F8");
        bad("48 89 05 F8 00 00 00 00");
        bad("48 89 85 F8 FF FF FF 00");
        bad("48 63 45 F8");
    }

    private static void prefixes() {
        is("40 01 C8", 3, 0, 32, 0, 1, 0, 0);
        is("41 01 C8", 3, 0, 32, 8, 1, 0, 0);
        is("44 01 C8", 3, 0, 32, 0, 9, 0, 0);
        is("4D 01 C8", 3, 0, 64, 8, 9, 0, 0);
        for (String rex : new String[] {"42", "43", "46", "47", "4A", "4B", "4E", "4F"}) {
            bad(rex + " 01 C8");
        }
        bad("48 48 01 C8");
        bad("66 01 C8");
        is("4C 83 C1 01", 4, 0, 64, 1, NONE, 0, 1);
        is("4C F7 D9", 3, 10, 64, 1, NONE, 0, 0);
        is("4C FF C1", 3, 11, 64, 1, NONE, 0, 0);
        is("48 90", 2, 21, 0, NONE, NONE, 0, 0);
        is("41 C3", 2, 22, 0, NONE, NONE, 0, 0);
        is("48 EB 01", 3, 20, 0, NONE, NONE, 0, 4);
        is("48 0F 84 01 00 00 00", 7, 19, 0, NONE, NONE, 4, 8);
    }

    private static void whatIsBad() {
        for (String k : new String[] {"D0", "D8"}) {
            bad("83 " + k + " 01");
            bad("81 " + k + " 01 00 00 00");
        }
        for (String opcode : new String[] {"11", "13", "19", "1B"}) {
            bad("48 " + opcode + " C8");
        }
        for (String k : new String[] {"C8", "E0", "E8", "F0", "F8"}) {
            bad("F7 " + k + " 00 00 00 00");
        }
        for (String k : new String[] {"D0", "D8", "E0", "E8", "F0", "F8"}) {
            bad("FF " + k);
        }
        for (String k : new String[] {"C0", "C8", "D0", "D8", "F0"}) {
            bad("C1 " + k + " 01");
        }
        bad("C7 C8 00 00 00 00");
        bad("63 C1");
        bad("0F 05");
        bad("0F 0F AF C1");
        bad("01 08");
        rspAndRbpGetNothing();
    }

    private static void rspAndRbpGetNothing() {
        bad("48 01 C4");
        bad("48 01 C5");
        bad("48 03 E0");
        bad("48 89 EC");
        bad("8B E8");
        bad("48 83 EC 08");
        bad("BC 00 00 00 00");
        bad("BD 00 00 00 00");
        bad("48 F7 D4");
        bad("48 FF C5");
        bad("48 C1 E5 01");
        bad("48 C7 C4 00 00 00 00");
        bad("48 0F AF E0");
        bad("48 63 E8");
        is("49 01 C4", 3, 0, 64, 12, 0, 0, 0);
        is("49 01 C5", 3, 0, 64, 13, 0, 0, 0);
        is("48 39 C4", 3, 7, 64, 4, 0, 0, 0);
        is("48 3B E8", 3, 7, 64, 5, 0, 0, 0);
        is("48 85 E4", 3, 8, 64, 4, 4, 0, 0);
        is("F7 C5 01 00 00 00", 6, 8, 32, 5, NONE, 0, 1);
        is("48 89 E8", 3, 13, 64, 0, 5, 0, 0);
        is("48 01 E0", 3, 0, 64, 0, 4, 0, 0);
    }

    /** Which first bytes tell an instruction, with C1 and zeros behind them. */
    private static void everySingleByte() {
        String good = "";
        for (int first = 0; first < 256; first++) {
            String hex = Bench.hex(first);
            if (!Bench.told(hex + " C1 00 00 00 00 00 00 00 00").startsWith("-1 ")) {
                good += hex + " ";
            }
        }
        Bench.due("the first bytes with C1 behind them", good, "01 03 09 0B 21 23 29 2B 31 33 39 3B"
            + " 70 71 72 73 74 75 76 77 78 79 7C 7D 7E 7F 81 83 85 89 8B 90 B8 B9 BA BB BE BF C3 C7"
            + " E9 EB F4 F7 FF ");
    }

    private static void cutOff() {
        String[] whole = {"48 01 C8", "48 83 C0 01", "48 81 C0 01 00 00 00", "48 B8 01 02 03 04 05 06 07 08",
            "B8 01 02 03 04", "48 0F AF C1", "0F 84 00 00 00 00", "74 00", "EB 00", "E9 00 00 00 00",
            "48 89 45 F8", "48 C7 45 F8 01 00 00 00", "48 C1 E0 01", "48 63 C1", "F7 C0 01 00 00 00", "48 90"};
        for (String hex : whole) {
            int length = Bench.bytes(hex).length;
            Bench.due("length of " + hex, Bench.fed(hex).decode(0, 0), length);
            for (int less = 1; less < length; less++) {
                bad(hex.substring(0, 3 * less - 1));
            }
        }
    }

    private static void wrongNumbers() {
        StrideWatch watch = Bench.fed("48 01 C8 90");
        for (int address : new int[] {-1, 4, 200, Integer.MIN_VALUE, Integer.MAX_VALUE}) {
            Bench.argument("decode at " + address, () -> watch.decode(address, 0));
            Bench.argument("constant at " + address, () -> watch.constant(address));
        }
        for (int what : new int[] {-1, 6, Integer.MIN_VALUE, Integer.MAX_VALUE}) {
            Bench.argument("decode of " + what, () -> watch.decode(0, what));
        }
        Bench.due("decode inside of another instruction", watch.decode(1, 2), 32);
    }
}
