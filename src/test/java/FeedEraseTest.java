/** Promises 2 and 3: feed and erase. */
public final class FeedEraseTest {
    public static void main(String[] args) {
        bytesComeHighestFirst();
        onlySoManyAreTaken();
        feedingGoesOnBehind();
        wrongNumbersChangeNothing();
        twoHundredAreTheMost();
        feedingForgets();
        erasingForgetsAndKeeps();
        Bench.end();
    }

    private static void bytesComeHighestFirst() {
        StrideWatch watch = new StrideWatch();
        Bench.due("feed of 16", watch.feed(16, 0x49B80102, 0x03040506, 0x0708EBFE, 0x9090F4C3), 16);
        Bench.due("length of the mov", watch.decode(0, 0), 10);
        Bench.due("constant of the mov", watch.constant(0), 0x0807060504030201L);
        Bench.due("operation of the jump", watch.decode(10, 1), 20);
        Bench.due("where it jumps", watch.constant(10), 10);
        Bench.due("operation at 12", watch.decode(12, 1), 21);
        Bench.due("operation at 13", watch.decode(13, 1), 21);
        Bench.due("operation at 14", watch.decode(14, 1), 22);
        Bench.due("operation at 15", watch.decode(15, 1), 22);
    }

    private static void onlySoManyAreTaken() {
        for (int many = 0; many <= 16; many++) {
            StrideWatch watch = new StrideWatch();
            int last = many;
            Bench.due("feed of " + many, watch.feed(many, 0x90909090, 0x90909090, 0x90909090, 0x90909090), many);
            Bench.argument("byte " + many, () -> watch.decode(last, 0));
            if (many > 0) {
                Bench.due("byte before " + many, watch.decode(many - 1, 1), 21);
            }
        }
    }

    private static void feedingGoesOnBehind() {
        StrideWatch watch = new StrideWatch();
        Bench.due("first feed", watch.feed(3, 0x48B80100, 0, 0, 0), 3);
        Bench.due("an instruction that goes beyond the code", watch.decode(0, 1), StrideWatch.NONE);
        Bench.due("second feed", watch.feed(7, 0, 0x0000007F, 0, 0), 10);
        Bench.due("the instruction when all of it is there", watch.decode(0, 0), 10);
        Bench.due("its constant", watch.constant(0), 1);
        Bench.due("third feed", watch.feed(1, 0xC3FFFFFF, -1, -1, -1), 11);
        Bench.due("what was fed last", watch.decode(10, 1), 22);
    }

    private static void wrongNumbersChangeNothing() {
        StrideWatch watch = Bench.fed("90 C3");
        watch.look();
        watch.start();
        for (int many : new int[] {-1, 17, Integer.MIN_VALUE, Integer.MAX_VALUE}) {
            Bench.argument("feed of " + many, () -> watch.feed(many, 0, 0, 0, 0));
        }
        Bench.due("reached behind a wrong feed", watch.reached(1), 1);
        Bench.due("at behind a wrong feed", watch.at(), 0);
        Bench.due("code behind a wrong feed", watch.erase(), 2);
    }

    private static void twoHundredAreTheMost() {
        StrideWatch watch = new StrideWatch();
        for (int i = 1; i <= 12; i++) {
            Bench.due("feed " + i, watch.feed(16, 0x90909090, 0x90909090, 0x90909090, 0x90909090), 16 * i);
        }
        watch.look();
        watch.start();
        Bench.state("feed up to 201", () -> watch.feed(9, 0, 0, 0, 0));
        Bench.due("reached behind a feed that is too much", watch.reached(191), 1);
        Bench.due("at behind a feed that is too much", watch.at(), 0);
        Bench.due("feed up to 200", watch.feed(8, 0x90909090, 0x909090C3, 0, 0), 200);
        Bench.state("feed of 1 more", () -> watch.feed(1, 0, 0, 0, 0));
        Bench.argument("feed of 17 more", () -> watch.feed(17, 0, 0, 0, 0));
        Bench.due("feed of nothing more", watch.feed(0, 0, 0, 0, 0), 200);
        Bench.due("the last byte", watch.decode(199, 1), 22);
        Bench.due("look at 200 bytes", watch.look(), 1);
        Bench.due("the last point", watch.reached(199), 1);
        Bench.due("erase of 200 bytes", watch.erase(), 200);
        Bench.due("feed behind erase", watch.feed(1, 0xC3000000, 0, 0, 0), 1);
    }

    private static void feedingForgets() {
        for (int many = 0; many <= 1; many++) {
            StrideWatch watch = Bench.fed("90 90");
            watch.look();
            watch.start();
            watch.feed(many, 0x90000000, 0, 0, 0);
            int fed = many;
            Bench.due("reached behind feed of " + fed, watch.reached(0), 0);
            Bench.due("at behind feed of " + fed, watch.at(), StrideWatch.NONE);
            Bench.state("go behind feed of " + fed, () -> watch.go(1));
            Bench.state("set behind feed of " + fed, () -> watch.set(0, 0, 0));
        }
    }

    private static void erasingForgetsAndKeeps() {
        StrideWatch watch = Bench.fed("90 90");
        watch.given(3, 5, 9, 2);
        watch.put(17, -5);
        watch.look();
        watch.start();
        Bench.due("erase", watch.erase(), 2);
        Bench.due("reached behind erase", watch.reached(0), 0);
        Bench.due("has behind erase", watch.has(0, 3, 5), false);
        Bench.due("at behind erase", watch.at(), StrideWatch.NONE);
        Bench.due("value behind erase", watch.value(17), 0);
        Bench.state("go behind erase", () -> watch.go(1));
        Bench.argument("decode behind erase", () -> watch.decode(0, 0));
        Bench.due("erase again", watch.erase(), 0);
        Bench.feed(watch, "C3");
        watch.look();
        watch.start();
        Bench.due("the set given before erase", Bench.setAt(watch, 0, 3), "5 9 2");
        Bench.due("the location set before erase", watch.value(17), -5);
        Bench.due("what an erased byte has left", watch.reached(1), 0);
    }
}
