import java.math.BigInteger;

/** Edges of what a RUN computes: sums, products and shifts that wrap around, against arithmetic without bounds. */
public final class ArithmeticEdgesTest {
    private static final long[] NUMBERS = {0, 1, 2, 3, -1, -2, -3, 127, 128, -128, -129, 0xFFFF, 0x10000, 0x7FFFFFFEL, 0x7FFFFFFFL,
        0x80000000L, 0x80000001L, 0xFFFFFFFEL, 0xFFFFFFFFL, 0x100000000L, 0x100000001L, -0x7FFFFFFFL, -0x80000000L, -0x80000001L,
        -0xFFFFFFFFL, -0x100000000L, 0x17FFFFFFFL, 0x180000000L, 1L << 61, -(1L << 61), 1L << 62, -(1L << 62),
        Long.MAX_VALUE - 1, Long.MAX_VALUE, Long.MIN_VALUE, Long.MIN_VALUE + 1, 0x7FFFFFFF00000000L, 0x7FFFFFFF80000000L};

    public static void main(String[] args) {
        for (int width = 32; width <= 64; width += 32) {
            for (long a : NUMBERS) {
                for (long b : NUMBERS) {
                    pairs(width, a, b);
                }
                singles(width, a);
                shifts(width, a);
            }
        }
        signExtension();
        constantsOfWideMoves();
        constantsHaveASign();
        halvesAreCleared();
        Bench.end();
    }

    /** The lowest bits of a number without bounds, as a LOCATION has them: for WIDTH 32 "the others becoming 0". */
    private static long wrapped(BigInteger exact, int width) {
        return exact.mod(BigInteger.ONE.shiftLeft(width)).longValue();
    }

    private static BigInteger signed(long number, int width) {
        return BigInteger.valueOf(width == 64 ? number : (int) number);
    }

    private static void is(String hex, int width, long a, long b, BigInteger want) {
        String whole = (width == 64 ? "48" : "") + hex;
        StrideWatch watch = Bench.started(whole + "C3", a, b);
        Bench.due("go of " + whole, watch.go(1), 0);
        Bench.due(whole + " of " + a + ", " + b, watch.value(0), wrapped(want, width));
        Bench.due("the other one of " + whole, watch.value(1), b);
        Bench.due("at behind " + whole, watch.at(), Bench.bytes(whole).length);
    }

    private static void pairs(int width, long a, long b) {
        BigInteger x = signed(a, width);
        BigInteger y = signed(b, width);
        is("01 C8", width, a, b, x.add(y));
        is("03 C1", width, a, b, x.add(y));
        is("29 C8", width, a, b, x.subtract(y));
        is("0F AF C1", width, a, b, x.multiply(y));
        is("21 C8", width, a, b, x.and(y));
        is("09 C8", width, a, b, x.or(y));
        is("31 C8", width, a, b, x.xor(y));
        is("89 C8", width, a, b, y);
        is("8B C1", width, a, b, y);
    }

    private static void singles(int width, long a) {
        BigInteger x = signed(a, width);
        is("FF C0", width, a, 5, x.add(BigInteger.ONE));
        is("FF C8", width, a, 5, x.subtract(BigInteger.ONE));
        is("F7 D8", width, a, 5, x.negate());
        is("F7 D0", width, a, 5, x.not());
        is("01 C0", width, a, 5, x.add(x));
        is("29 C0", width, a, 5, BigInteger.ZERO);
        is("31 C0", width, a, 5, BigInteger.ZERO);
        is("0F AF C0", width, a, 5, x.multiply(x));
        is("89 C0", width, a, 5, x);
        is("83 C0 7F", width, a, 5, x.add(BigInteger.valueOf(127)));
        is("83 C0 80", width, a, 5, x.subtract(BigInteger.valueOf(128)));
        is("83 E8 80", width, a, 5, x.add(BigInteger.valueOf(128)));
        is("81 C0 FF FF FF 7F", width, a, 5, x.add(BigInteger.valueOf(Integer.MAX_VALUE)));
        is("81 C0 00 00 00 80", width, a, 5, x.add(BigInteger.valueOf(Integer.MIN_VALUE)));
        is("81 E8 00 00 00 80", width, a, 5, x.subtract(BigInteger.valueOf(Integer.MIN_VALUE)));
        is("83 E0 80", width, a, 5, x.and(BigInteger.valueOf(-128)));
        is("83 C8 80", width, a, 5, x.or(BigInteger.valueOf(-128)));
        is("83 F0 80", width, a, 5, x.xor(BigInteger.valueOf(-128)));
        is("C7 C0 00 00 00 80", width, a, 5, BigInteger.valueOf(Integer.MIN_VALUE));
        // CMP and TEST get nothing, with WIDTH 32 not even zeros.
        for (String hex : new String[] {"39 C8", "3B C1", "83 F8 05", "85 C8", "F7 C0 05 00 00 00"}) {
            StrideWatch watch = Bench.started((width == 64 ? "48" : "") + hex, a, 5);
            watch.go(1);
            Bench.due(hex + " of " + a, watch.value(0), a);
        }
    }

    /** "by that, its lowest 6 bits (5 with WIDTH 32)" */
    private static void shifts(int width, long a) {
        for (int i : new int[] {0, 1, 2, 30, 31, 32, 33, 62, 63, 64, 65, 127, 128, 191, 192, 254, 255}) {
            int by = i & (width - 1);
            BigInteger x = signed(a, width);
            BigInteger unsigned = x.mod(BigInteger.ONE.shiftLeft(width));
            is("C1 E0" + Bench.hex(i), width, a, 5, x.shiftLeft(by));
            is("C1 E8" + Bench.hex(i), width, a, 5, unsigned.shiftRight(by));
            is("C1 F8" + Bench.hex(i), width, a, 5, x.shiftRight(by));
        }
    }

    /** "SIGN reg, rm (the lowest 32 bits, with their sign)" */
    private static void signExtension() {
        for (long b : NUMBERS) {
            is("63 C1", 64, 5, b, BigInteger.valueOf((int) b));
        }
        is("63 C0", 64, 0x80000000L, 5, BigInteger.valueOf(-0x80000000L));
    }

    /** "B8 + r .. i8 with W, else i4" */
    private static void constantsOfWideMoves() {
        is("B8 00 00 00 00 00 00 00 80", 64, 5, 5, BigInteger.valueOf(Long.MIN_VALUE));
        is("B8 FF FF FF FF FF FF FF 7F", 64, 5, 5, BigInteger.valueOf(Long.MAX_VALUE));
        is("B8 FF FF FF FF", 32, 5, 5, BigInteger.valueOf(-1));
        is("B8 00 00 00 80", 32, 5, 5, BigInteger.valueOf(-0x80000000L));
    }

    /** "i1, i4, i8 .. with a sign": they are made as wide as the operation is. */
    private static void constantsHaveASign() {
        is("83 C0 FF", 64, 0, 5, BigInteger.valueOf(-1));
        is("83 C0 FF", 32, 0, 5, BigInteger.valueOf(-1));
        is("C7 C0 FF FF FF FF", 64, 0, 5, BigInteger.valueOf(-1));
        is("81 C8 00 00 00 80", 64, 0, 5, BigInteger.valueOf(-0x80000000L));
    }

    /** "for WIDTH 32 on the lowest 32 bits, the others becoming 0", also where the lowest bits stay as they are. */
    private static void halvesAreCleared() {
        for (String hex : new String[] {"83 C0 00", "83 E0 FF", "83 C8 00", "83 F0 00", "C1 E0 00", "C1 E8 00", "C1 F8 20", "89 C0"}) {
            is(hex, 32, 0x5_0000_0007L, 5, BigInteger.valueOf(7));
            is(hex, 32, -1, 5, BigInteger.valueOf(-1));
        }
    }
}
