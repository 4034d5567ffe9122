import java.lang.reflect.Constructor;
import java.lang.reflect.Field;
import java.lang.reflect.Method;
import java.lang.reflect.Modifier;
import java.util.TreeSet;

/** The public face, and promise 1: a new object. */
public final class NewObjectTest {
    public static void main(String[] args) {
        nothingIsThere();
        everyLocationIsAny();
        everyLocationRunsFromZero();
        objectsShareNothing();
        faceIsTheDocuments();
        Bench.end();
    }

    private static void nothingIsThere() {
        StrideWatch watch = new StrideWatch();
        Bench.due("NONE", StrideWatch.NONE, -1);
        Bench.due("OUT", StrideWatch.OUT, -2);
        Bench.due("at of a new object", watch.at(), StrideWatch.NONE);
        Bench.due("value of a new object", watch.value(3), 0);
        Bench.due("reached of a new object", watch.reached(0), 0);
        Bench.due("has of a new object", watch.has(0, 0, 0), false);
        Bench.due("erase of a new object", watch.erase(), 0);
        Bench.state("go of a new object", () -> watch.go(1));
        Bench.state("set of a new object", () -> watch.set(0, 0, 0));
        Bench.argument("decode of a new object", () -> watch.decode(0, 0));
        Bench.argument("constant of a new object", () -> watch.constant(0));
        Bench.due("look of a new object", watch.look(), 0);
    }

    private static void everyLocationIsAny() {
        StrideWatch watch = Bench.fed("90");
        watch.look();
        for (int location = 0; location < 24; location++) {
            Bench.due("set of " + location, Bench.setAt(watch, 0, location), "any");
        }
    }

    private static void everyLocationRunsFromZero() {
        StrideWatch watch = Bench.fed("90");
        watch.start();
        for (int location = 0; location < 24; location++) {
            Bench.due("value of " + location, watch.value(location), 0);
        }
    }

    private static void objectsShareNothing() {
        StrideWatch one = Bench.fed("90");
        one.given(0, 1, 1, 0);
        one.put(0, 5);
        one.start();
        StrideWatch other = new StrideWatch();
        Bench.due("look beside another object", other.look(), 0);
        Bench.due("at beside another object", other.at(), StrideWatch.NONE);
        Bench.feed(other, "90");
        other.look();
        Bench.due("set beside another object", Bench.setAt(other, 0, 0), "any");
        other.start();
        Bench.due("value beside another object", other.value(0), 0);
    }

    private static void faceIsTheDocuments() {
        TreeSet<String> names = new TreeSet<>();
        for (Method method : StrideWatch.class.getDeclaredMethods()) {
            if (!Modifier.isPrivate(method.getModifiers())) {
                names.add(method.getName() + method.getParameterCount());
            }
        }
        Bench.due("the methods", names, "[any1, at0, constant1, decode2, erase0, feed5, given4, go1, has3, look0,"
            + " put2, reached1, set3, start0, value1]");
        names.clear();
        for (Field field : StrideWatch.class.getDeclaredFields()) {
            if (!Modifier.isPrivate(field.getModifiers())) {
                names.add(field.getName());
            }
        }
        Bench.due("the constants", names, "[NONE, OUT]");
        Constructor<?>[] constructors = StrideWatch.class.getDeclaredConstructors();
        Bench.due("how many constructors", constructors.length, 1);
        Bench.due("the class", Modifier.toString(StrideWatch.class.getModifiers()), "public final");
    }
}
