import java.util.Random;

/** All promises at once: whatever a RUN holds at a POINT is in the SET that was found there. */
public final class SoundnessTest {
    private static final int PROGRAMS = 1500;
    private static final int[] REGISTERS = {0, 0, 1, 1, 2, 3, 8};
    private static final int[] ARITHMETIC = {0, 1, 4, 5, 6, 7, 7, 7};
    private static final int[] CONDITIONS = {0, 1, 2, 3, 4, 5, 6, 7, 8, 9, 12, 13, 14, 15};

    // A fixed seed: the same programs in every run.
    private final Random random = new Random(20261115);
    private final int[] bytes = new int[200];
    private int count;
    private int checked;

    public static void main(String[] args) {
        SoundnessTest test = new SoundnessTest();
        for (int i = 0; i < PROGRAMS; i++) {
            test.program(i);
        }
        if (test.checked < 100000) {
            Bench.due("how many values were looked at", test.checked, "100000 or more");
        }
        Bench.end();
    }

    private void program(int number) {
        write();
        StrideWatch watch = new StrideWatch();
        Bench.feed(watch, java.util.Arrays.copyOf(bytes, count));
        long[] values = new long[24];
        for (int location = 0; location < 24; location++) {
            values[location] = give(watch, location);
            watch.put(location, values[location]);
        }
        if (watch.look() == StrideWatch.NONE) {
            return;
        }
        watch.start();
        for (int i = 0; i < 15; i++) {
            int at = watch.at();
            if (at < 0) {
                return;
            }
            for (int location = 0; location < 24; location++) {
                checked++;
                if (!watch.has(at, location, watch.value(location))) {
                    Bench.due("program " + number + " at " + at + ": " + watch.value(location) + " in location " + location,
                        Bench.setAt(watch, at, location), "a set that has it");
                }
            }
            if (watch.go(1) != 0) {
                return;
            }
        }
    }

    /** Gives a set or none, and answers a number of it. */
    private long give(StrideWatch watch, int location) {
        long low = random.nextInt(3) == 0 ? random.nextInt() : random.nextInt(40) - 20;
        if (random.nextInt(3) == 0) {
            return low << random.nextInt(40);
        }
        long step = 1L << random.nextInt(34);
        int many = random.nextInt(20);
        watch.given(location, low, low + many * step, many == 0 ? 0 : step);
        return low + random.nextInt(many + 1) * step;
    }

    private void write() {
        count = 0;
        int limit = 20 + random.nextInt(100);
        while (count < limit) {
            instruction();
        }
        put(0xC3);
    }

    private void put(int... more) {
        for (int one : more) {
            bytes[count] = one & 0xFF;
            count++;
        }
    }

    private int pick(int[] from) {
        return from[random.nextInt(from.length)];
    }

    private void instruction() {
        switch (random.nextInt(9)) {
            case 0, 1 -> place(0x01 + 8 * pick(ARITHMETIC) + 2 * random.nextInt(2), pick(REGISTERS), 0);
            case 2, 3 -> place(0x83, pick(ARITHMETIC), 1);
            case 4 -> place(0xC1, new int[] {4, 5, 7}[random.nextInt(3)], 1);
            case 5 -> place(random.nextBoolean() ? 0xF7 : 0xFF, random.nextInt(2), 0);
            case 6 -> place(new int[] {0x85, 0x89, 0x8B, 0x63, 0x0FAF}[random.nextInt(5)], pick(REGISTERS), 0);
            default -> put(0x70 + pick(CONDITIONS), random.nextInt(3) == 0 ? -random.nextInt(40) : random.nextInt(12));
        }
    }

    private void place(int opcode, int register, int constants) {
        int wide = random.nextInt(4) == 0 ? 0 : 8;
        int extension = register;
        if (opcode == 0xF7) {
            extension = 2 + register;
        }
        boolean stack = wide != 0 && opcode != 0x63 && random.nextInt(6) == 0;
        int other = pick(REGISTERS);
        put(0x40 | wide | (extension > 7 ? 4 : 0) | (!stack && other > 7 ? 1 : 0));
        if (opcode > 0xFF) {
            put(opcode >> 8);
        }
        put(opcode);
        if (stack) {
            put(0x45 | (extension & 7) << 3, -8 - 8 * random.nextInt(8));
        } else {
            put(0xC0 | (extension & 7) << 3 | other & 7);
        }
        if (constants == 1) {
            put(random.nextInt(3) == 0 ? random.nextInt(256) : random.nextInt(24) - 8);
        }
    }
}
