/** The calls of the example in README.md, with the answers that it tells. */
public final class ReadmeTest {
    public static void main(String[] args) {
        StrideWatch watch = new StrideWatch();
        Bench.due("feed", watch.feed(15, 0x31C94883, 0xF9287D06, 0x4883C104, 0xEBF4C300), 15);
        decoding(watch);
        looking(watch);
        running(watch);
        Bench.end();
    }

    private static void decoding(StrideWatch watch) {
        Bench.due("length", watch.decode(8, 0), 4);
        Bench.due("operation", watch.decode(8, 1), 0);
        Bench.due("location that gets", watch.decode(8, 3), 1);
        Bench.due("constant", watch.constant(8), 4);
        Bench.due("where the jump goes to", watch.constant(12), 2);
    }

    private static void looking(StrideWatch watch) {
        Bench.due("look", watch.look(), 4);
        Bench.due("lowest", watch.set(8, 1, 0), 0);
        Bench.due("highest", watch.set(8, 1, 1), 36);
        Bench.due("step", watch.set(8, 1, 2), 4);
        Bench.due("has", watch.has(8, 1, 13), false);
        Bench.due("all numbers", watch.set(8, 0, 2), -1);
        Bench.due("reached", watch.reached(7), 0);
        watch.given(0, 1, 9, 2);
        Bench.due("given behind look", watch.set(8, 0, 2), -1);
        Bench.due("look again", watch.look(), 4);
        Bench.due("given before look", watch.set(8, 0, 1), 9);
    }

    private static void running(StrideWatch watch) {
        watch.put(0, 7);
        watch.start();
        Bench.due("go", watch.go(1000), 1);
        Bench.due("at", watch.at(), 14);
        Bench.due("rax", watch.value(0), 7);
        Bench.due("rcx", watch.value(1), 40);
    }
}
