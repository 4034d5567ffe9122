import java.util.Random;

/** Whatever is called with whatever numbers: nothing is thrown but what the document names, and what throws changes nothing. */
public final class RobustnessTest {
    private static final int OBJECTS = 400;
    private static final int CALLS = 512;
    private static final long[] EDGES = {0, 1, -1, 2, 3, 5, 6, 15, 16, 17, 23, 24, 25, 59, 60, 61, 199, 200, 201, 999, 1000, 1001,
        1L << 31, (1L << 31) - 1, -(1L << 31), 1L << 61, -(1L << 61), (1L << 61) + 1, Long.MIN_VALUE, Long.MAX_VALUE};
    private static final int[] BYTES = {0x48, 0x48, 0x48, 0x4C, 0x49, 0x01, 0x29, 0x31, 0x39, 0x83, 0x81, 0x85, 0xF7, 0xFF, 0x89,
        0x8B, 0xC7, 0xB8, 0xC1, 0x0F, 0xAF, 0x63, 0x74, 0x7C, 0xEB, 0xE9, 0x90, 0xC3, 0xC0, 0xC8, 0x45, 0xF8};

    private final Random random = new Random(7);

    public static void main(String[] args) {
        RobustnessTest test = new RobustnessTest();
        for (int i = 0; i < OBJECTS; i++) {
            test.oneObject(i);
        }
        Bench.end();
    }

    /** The same calls on two objects: the second one leaves out what throws on the first one. */
    private void oneObject(int number) {
        StrideWatch first = new StrideWatch();
        StrideWatch second = new StrideWatch();
        for (int i = 0; i < CALLS; i++) {
            int which = random.nextInt(18);
            long[] n = {edge(), edge(), edge(), edge()};
            int[] words = {word(), word(), word(), word()};
            String answer = Bench.answer(() -> call(first, which, n, words));
            boolean throwing = answer.startsWith("Illegal");
            if (!throwing) {
                Bench.due("object " + number + ", call " + i + " of kind " + which, answer,
                    Bench.answer(() -> call(second, which, n, words)));
            }
            if (answer.endsWith("Exception") && !mayThrow(which, answer)) {
                Bench.due("object " + number + ", call " + i + " of kind " + which, answer, "what the document names");
            }
        }
    }

    private static boolean mayThrow(int which, String answer) {
        boolean argument = answer.equals("IllegalArgumentException");
        boolean state = answer.equals("IllegalStateException");
        return switch (which) {
            case 0, 1, 2, 9, 13 -> argument || state;
            case 4, 5, 6, 10, 12, 15, 16 -> argument;
            default -> false;
        };
    }

    private static long call(StrideWatch watch, int which, long[] n, int[] words) {
        switch (which) {
            case 0: case 1: return watch.feed((int) n[0], words[0], words[1], words[2], words[3]);
            case 2: return watch.feed(16, words[0], words[1], words[2], words[3]);
            case 3: return n[0] == 0 ? watch.erase() : 0;
            case 4: watch.given((int) n[0], n[1], n[2], n[3]); return 0;
            case 5: watch.any((int) n[0]); return 0;
            case 6: return watch.decode((int) n[0], (int) n[1]);
            case 7: return watch.look();
            case 8: return watch.reached((int) n[0]);
            case 9: return watch.set((int) n[0], (int) n[1], (int) n[2]);
            case 10: return watch.has((int) n[0], (int) n[1], n[2]) ? 1 : 0;
            case 11: watch.start(); return 0;
            case 12: watch.put((int) n[0], n[1]); return 0;
            case 13: return watch.go((int) n[0]);
            case 14: return watch.at();
            case 15: return watch.value((int) n[0]);
            case 16: return watch.constant((int) n[0]);
            default: return watch.look();
        }
    }

    private long edge() {
        return random.nextBoolean() ? EDGES[random.nextInt(EDGES.length)] : random.nextInt(30);
    }

    private int word() {
        int word = 0;
        for (int i = 0; i < 4; i++) {
            word = word << 8 | (random.nextInt(5) == 0 ? random.nextInt(256) : BYTES[random.nextInt(BYTES.length)]);
        }
        return word;
    }
}
