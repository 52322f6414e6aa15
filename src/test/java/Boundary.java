import java.lang.reflect.InvocationTargetException;
import java.lang.reflect.Method;
import java.util.Arrays;
import java.util.Comparator;
import java.util.List;
import java.util.function.Supplier;
import java.util.function.ToIntFunction;

/**
 * What the boundary tests share. A class of them has a method for each sentence that names a
 * boundary case; its name begins with "promise" and the promise's number.
 */
abstract class Boundary {
    static final int BAD = -1, NO = -2, FULL = -3, NONE = -4, ZERO = 100000;
    static final int LEAST = Integer.MIN_VALUE, MOST = Integer.MAX_VALUE;

    /** The object that due() speaks of. */
    Trial x;
    private final Check check = new Check();
    private String test = "";

    void due(String what, int got, int want) {
        if (got != want) System.out.println("run: " + x);
        check.due(test + ": " + what, got, want);
    }

    private void same(String what, List<Integer> got, List<Integer> want) {
        if (!got.equals(want)) System.out.println("got  " + got + "\nwant " + want);
        check.holds(test + ": " + what, got.equals(want));
    }

    void fresh() {
        x = new Trial();
    }

    /** A new object with this text in it. */
    void written(String text) {
        x = new Trial().writeAll(text);
    }

    /** A new object with this text laid. */
    void laid(String text) {
        x = laying(text).get();
        due(text + " is laid", x.count(10), text.length());
    }

    static Supplier<Trial> laying(String text) {
        return () -> {
            Trial made = new Trial().writeAll(text);
            if (made.lay() < 0) throw new IllegalStateException("no text to lay: " + text);
            return made;
        };
    }

    /** Every kind of change has been made, one more than can be undone; both eyes have been told. */
    static Trial busy() {
        Trial made = laying("s8;t1;g1;w0,0,0,0,9;w4,0,4,0,9;w40,1,40,1,5;").get();
        made.set(2, 0, 41);
        made.limit(0, 3);
        made.shift(5);
        made.bond(0);
        made.mend(1);
        made.bond(2);
        made.take(2);
        made.eye(0, 0, 0, 19, 1 << 5 | 1 << 9);
        made.eye(1, 1, 40, 59, 1 << 6);
        return made;
    }

    static Supplier<Trial> busyAnd(ToIntFunction<Trial> last) {
        return () -> {
            Trial made = busy();
            last.applyAsInt(made);
            return made;
        };
    }

    /** That a call has this answer and leaves all as it is on a twin on which it was not made. */
    void changesNothing(String what, Supplier<Trial> made, ToIntFunction<Trial> call, int want) {
        x = made.get();
        due(what, call.applyAsInt(x), want);
        same(what + " changed something: " + x, x.toTheBottom(), made.get().toTheBottom());
    }

    /** That two ways lead to what is just the same. */
    void alike(String what, Supplier<Trial> one, Supplier<Trial> other) {
        same(what, one.get().toTheBottom(), other.get().toTheBottom());
    }

    /** Runs each test of the class; each of these promises must have one. */
    void runAll(int firstPromise, int lastPromise) {
        Method[] tests = Arrays.stream(getClass().getDeclaredMethods())
                .filter(m -> m.getName().startsWith("promise")).toArray(Method[]::new);
        Arrays.sort(tests, Comparator.comparing(Method::getName));
        for (int promise = firstPromise; promise <= lastPromise; promise++) {
            String start = "promise" + promise;
            check.holds("there is a test of promise " + promise, Arrays.stream(tests).anyMatch(
                    m -> m.getName().startsWith(start) && !Character.isDigit(m.getName().charAt(start.length()))));
        }
        for (Method each : tests) runOne(each);
        check.end();
    }

    private void runOne(Method each) {
        test = each.getName();
        try {
            each.invoke(this);
        } catch (InvocationTargetException thrown) {
            thrown.getCause().printStackTrace(System.out);
            check.holds(test + " threw " + thrown.getCause(), false);
        } catch (IllegalAccessException thrown) {
            check.holds(test + " can't be called", false);
        }
    }
}
