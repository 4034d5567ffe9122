import java.util.function.LongSupplier;

/** What the tests share: feeding code as hexadecimal digits, reading sets as text, counting wrong answers. */
final class Bench {
    private static int wrong = 0;

    private Bench() {
    }

    static void due(String what, Object got, Object want) {
        if (!String.valueOf(got).equals(String.valueOf(want))) {
            wrong++;
            System.out.println(what + " answered " + got + ", due is " + want);
        }
    }

    /** The answer of a call as text, or the name of what it throws. */
    static String answer(LongSupplier call) {
        try {
            return String.valueOf(call.getAsLong());
        } catch (RuntimeException e) {
            return e.getClass().getSimpleName();
        }
    }

    static String answer(Runnable call) {
        return answer(() -> {
            call.run();
            return 0;
        });
    }

    static void argument(String what, Runnable call) {
        due(what, answer(call), "IllegalArgumentException");
    }

    static void state(String what, Runnable call) {
        due(what, answer(call), "IllegalStateException");
    }

    static void fine(String what, Runnable call) {
        due(what, answer(call), "0");
    }

    static int[] bytes(String hex) {
        String digits = hex.replace(" ", "");
        int[] bytes = new int[digits.length() / 2];
        for (int i = 0; i < bytes.length; i++) {
            bytes[i] = Integer.parseInt(digits.substring(2 * i, 2 * i + 2), 16);
        }
        return bytes;
    }

    static void feed(StrideWatch watch, String hex) {
        feed(watch, bytes(hex));
    }

    static void feed(StrideWatch watch, int[] bytes) {
        for (int from = 0; from < bytes.length; from += 16) {
            int many = Math.min(16, bytes.length - from);
            int[] words = new int[4];
            for (int i = 0; i < many; i++) {
                words[i / 4] |= bytes[from + i] << (24 - 8 * (i % 4));
            }
            watch.feed(many, words[0], words[1], words[2], words[3]);
        }
    }

    static StrideWatch fed(String hex) {
        StrideWatch watch = new StrideWatch();
        feed(watch, hex);
        return watch;
    }

    /** A set as "l u s" or "l", as "any", or as "-" where nothing came to. */
    static String setAt(StrideWatch watch, int address, int location) {
        if (watch.reached(address) == 0) {
            return "-";
        }
        long low = watch.set(address, location, 0);
        long high = watch.set(address, location, 1);
        long step = watch.set(address, location, 2);
        if (step == -1) {
            return low == 0 && high == 0 ? "any" : "any with bounds";
        }
        return step == 0 && low == high ? String.valueOf(low) : low + " " + high + " " + step;
    }

    /** Gives sets, each as "location: l u s", "location: v" or "location: any". */
    static void give(StrideWatch watch, String... sets) {
        for (String set : sets) {
            int colon = set.indexOf(':');
            int location = Integer.parseInt(set.substring(0, colon).trim());
            String[] parts = set.substring(colon + 1).trim().split(" ");
            if (parts[0].equals("any")) {
                watch.any(location);
            } else if (parts.length == 1) {
                watch.given(location, Long.parseLong(parts[0]), Long.parseLong(parts[0]), 0);
            } else {
                watch.given(location, Long.parseLong(parts[0]), Long.parseLong(parts[1]), Long.parseLong(parts[2]));
            }
        }
    }

    /** The set of location 0 behind one piece of code without jumps. */
    static String behind(String hex, String... sets) {
        StrideWatch watch = fed(hex + " C3");
        give(watch, sets);
        watch.look();
        return setAt(watch, bytes(hex).length, 0);
    }

    /** All that decode tells, and the constant: length, operation, width, first, other, detail, constant. */
    static String told(String hex) {
        return told(fed(hex), 0);
    }

    static String told(StrideWatch watch, int address) {
        StringBuilder all = new StringBuilder();
        for (int what = 0; what <= 5; what++) {
            all.append(watch.decode(address, what)).append(' ');
        }
        return all.append(watch.constant(address)).toString();
    }

    /** What is told of an instruction that is BAD. */
    static final String BAD = "-1 -1 -1 -1 -1 -1 0";

    static boolean isBad(String hex) {
        return told(hex).equals(BAD);
    }

    static String hex(int oneByte) {
        return Integer.toHexString(256 + (oneByte & 255)).substring(1).toUpperCase();
    }

    static String nops(int many) {
        return "90 ".repeat(many);
    }

    /** The sets of 0 and 1 where the jump is not taken and where it is, behind what sets the flags. */
    static String edges(String flags, int condition, String a, String b) {
        String jump = "7" + Integer.toHexString(condition) + " 01";
        StrideWatch watch = fed(flags + jump + "C3 C3");
        give(watch, "0:" + a, "1:" + b);
        watch.look();
        int behind = bytes(flags).length + 2;
        return pair(watch, behind) + " | " + pair(watch, behind + 1);
    }

    static String pair(StrideWatch watch, int address) {
        return watch.reached(address) == 0 ? "-" : setAt(watch, address, 0) + ", " + setAt(watch, address, 1);
    }

    /** A run that is started, with the first locations set. */
    static StrideWatch started(String hex, long... values) {
        StrideWatch watch = fed(hex);
        for (int i = 0; i < values.length; i++) {
            watch.put(i, values[i]);
        }
        watch.start();
        return watch;
    }

    static void end() {
        if (wrong > 0) {
            System.out.println(wrong + " wrong answers");
            System.exit(1);
        }
    }
}
