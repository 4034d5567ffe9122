import java.math.BigInteger;

/** Promise 14: the flags behind each operation, by all conditions, against arithmetic without bounds. */
public final class FlagsTest {
    private static final long[] NUMBERS = {0, 1, 2, 5, -1, -2, -5, 127, -128, 0x7FFFFFFFL, 0x80000000L, 0x80000001L,
        0xFFFFFFFFL, 0x100000000L, -0x80000000L, -0x80000001L, Long.MAX_VALUE, Long.MAX_VALUE - 1, Long.MIN_VALUE,
        Long.MIN_VALUE + 1, 0x7FFFFFFF00000000L, 0x123456789ABCDEFL, 0x5555555555555555L, 0xAAAAAAAAAAAAAAAAL};
    private static final int[] CONDITIONS = {0, 1, 2, 3, 4, 5, 6, 7, 8, 9, 12, 13, 14, 15};

    private boolean zero;
    private boolean sign;
    private boolean carry;
    private boolean overflow;

    public static void main(String[] args) {
        FlagsTest test = new FlagsTest();
        for (int width = 32; width <= 64; width += 32) {
            for (long a : NUMBERS) {
                for (long b : NUMBERS) {
                    test.pairs(width, a, b);
                }
                test.singles(width, a);
            }
        }
        flagsThatStay();
        flagsThatGo();
        Bench.end();
    }

    private void pairs(int width, long a, long b) {
        BigInteger x = signed(a, width);
        BigInteger y = signed(b, width);
        arithmetic(x.add(y), unsigned(a, width).add(unsigned(b, width)), width);
        check("01 C8", width, a, b);
        arithmetic(x.subtract(y), unsigned(a, width).subtract(unsigned(b, width)), width);
        check("29 C8", width, a, b);
        check("39 C8", width, a, b);
        check("3B C1", width, a, b);
        bits(x.and(y));
        check("21 C8", width, a, b);
        check("85 C8", width, a, b);
        bits(x.or(y));
        check("09 C8", width, a, b);
        bits(x.xor(y));
        check("31 C8", width, a, b);
    }

    private void singles(int width, long a) {
        BigInteger x = signed(a, width);
        arithmetic(x.negate(), unsigned(a, width).negate(), width);
        check("F7 D8", width, a, 0);
        arithmetic(x.add(BigInteger.valueOf(-5)), unsigned(a, width).add(unsigned(-5, width)), width);
        check("83 C0 FB", width, a, 0);
        check("81 C0 FB FF FF FF", width, a, 0);
        arithmetic(x.subtract(BigInteger.valueOf(-5)), unsigned(a, width).subtract(unsigned(-5, width)), width);
        check("83 F8 FB", width, a, 0);
        bits(x.and(BigInteger.valueOf(-128)));
        check("F7 C0 80 FF FF FF", width, a, 0);
        for (int before = 0; before <= 1; before++) {
            arithmetic(x.add(BigInteger.ONE), BigInteger.ZERO, width);
            carry = before == 1;
            checkBehindCarry("FF C0", width, a, carry);
            arithmetic(x.subtract(BigInteger.ONE), BigInteger.ZERO, width);
            carry = before == 1;
            checkBehindCarry("FF C8", width, a, carry);
        }
    }

    private static BigInteger signed(long number, int width) {
        return BigInteger.valueOf(width == 64 ? number : (int) number);
    }

    private static BigInteger unsigned(long number, int width) {
        return BigInteger.valueOf(number).mod(BigInteger.ONE.shiftLeft(width));
    }

    private void arithmetic(BigInteger exact, BigInteger withoutSigns, int width) {
        BigInteger wrapped = exact.mod(BigInteger.ONE.shiftLeft(width));
        zero = wrapped.signum() == 0;
        sign = wrapped.testBit(width - 1);
        carry = withoutSigns.signum() < 0 || withoutSigns.bitLength() > width;
        overflow = exact.bitLength() >= width;
    }

    private void bits(BigInteger result) {
        zero = result.signum() == 0;
        sign = result.signum() < 0;
        carry = false;
        overflow = false;
    }

    private boolean holds(int condition) {
        boolean plain = switch (condition / 2) {
            case 0 -> overflow;
            case 1 -> carry;
            case 2 -> zero;
            case 3 -> carry || zero;
            case 4 -> sign;
            case 6 -> sign != overflow;
            default -> zero || sign != overflow;
        };
        return plain == (condition % 2 == 0);
    }

    private void check(String hex, int width, long a, long b) {
        check("", (width == 64 ? "48 " : "") + hex, a, b);
    }

    /** Behind a CMP of locations 2 and 3 that makes C what it is to be. */
    private void checkBehindCarry(String hex, int width, long a, boolean before) {
        check(before ? "48 39 DA " : "48 39 D3 ", (width == 64 ? "48 " : "") + hex, a, 0);
    }

    private void check(String before, String hex, long a, long b) {
        int length = Bench.bytes(before + hex).length;
        StrideWatch watch = new StrideWatch();
        watch.put(0, a);
        watch.put(1, b);
        watch.put(2, 1);
        watch.put(3, 2);
        for (int condition : CONDITIONS) {
            watch.erase();
            Bench.feed(watch, before + hex + " 7" + Integer.toHexString(condition) + " 01 C3 C3");
            watch.start();
            String what = hex + " of " + a + ", " + b + " by " + condition;
            Bench.due("go of " + what, watch.go(10), 1);
            Bench.due(what, watch.at(), length + (holds(condition) ? 3 : 2));
        }
    }

    /** C and O of what stood before are no more behind AND, OR, XOR and TEST, Z and S behind all that sets flags. */
    private static void flagsThatGo() {
        for (String before : new String[] {"48 39 DA", "48 01 F6", "48 01 FF"}) {
            for (String hex : new String[] {"21 C8", "09 C8", "31 C8", "85 C8", "F7 C0 05 00 00 00", "83 E0 05", "83 C8 05", "83 F0 02"}) {
                for (String rex : new String[] {"", "48"}) {
                    // Not overflow, not carry, not sign: each of the three jumps leads over an END.
                    StrideWatch watch = Bench.fed(before + rex + hex + "71 01 C3 73 01 C3 79 01 C3 75 01 C3 90");
                    watch.put(0, 5);
                    watch.put(1, 7);
                    watch.put(2, 1);
                    watch.put(3, 2);
                    watch.put(6, Long.MIN_VALUE);
                    watch.put(7, Long.MAX_VALUE);
                    watch.start();
                    Bench.due("flags of " + before + " behind " + rex + hex, watch.go(100), 3);
                }
            }
        }
    }

    private static void flagsThatStay() {
        // CMP of 1 with 2 sets S and C; what leaves flags stands between it and the jump.
        for (String between : new String[] {"48 89 C8", "89 C8", "48 F7 D0", "48 63 C1", "90", "EB 00", "48 C7 C0 00 00 00 00",
            "B8 00 00 00 00", "70 00", "0F 85 00 00 00 00"}) {
            StrideWatch watch = Bench.fed("48 39 DA " + between + " 72 01 C3 78 01 C3 74 02 C3 C3 C3");
            watch.put(2, 1);
            watch.put(3, 2);
            watch.start();
            int length = 3 + Bench.bytes(between).length;
            Bench.due("go with " + between, watch.go(10), 1);
            Bench.due("flags behind " + between, watch.at(), length + 8);
        }
    }
}
