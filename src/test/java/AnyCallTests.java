import java.lang.reflect.InvocationTargetException;
import java.lang.reflect.Method;
import java.lang.reflect.Modifier;
import java.util.Arrays;
import java.util.Comparator;

/**
 * Calls with any arguments in any state, also behind the 512th, where answers are free: none may
 * throw, and none answers a number below NONE. The same calls each time.
 */
public final class AnyCallTests {
    private static final int NONE = -4;
    private static final int[] ENDS = {Integer.MIN_VALUE, Integer.MIN_VALUE + 1, -65536, -1, 0, 1, 31, 32, 33, 63, 64, 65,
        65536, 1 << 30, Integer.MAX_VALUE - 1, Integer.MAX_VALUE};
    private static final String[] TEXTS = {"", "s8;", "s40;g9;h40;t9;w60,2,0,2,40;w0,2,60,1,40;",
        "s8;" + "w30,1,30,1,20;".repeat(8), "s9;t1;g1;h1;w0,0,0,0,1;w9,1,9,1,9;w18,2,18,2,18;w27,0,27,0,27;"};

    private final Check check = new Check();
    private final Method[] methods = Arrays.stream(BondedWires.class.getDeclaredMethods())
            .filter(m -> Modifier.isPublic(m.getModifiers())).sorted(Comparator.comparing(Method::getName))
            .toArray(Method[]::new);
    private long seed;

    private int dice(int sides) {
        seed = seed * 6364136223846793005L + 1442695040888963407L;
        return (int) ((seed >>> 33) % sides);
    }

    private int anyNumber() {
        switch (dice(4)) {
            case 0: return ENDS[dice(ENDS.length)];
            case 1: return dice(130) - 10;
            default: return dice(8);
        }
    }

    private void anyCall(BondedWires x) throws IllegalAccessException {
        Method m = methods[dice(methods.length)];
        Object[] numbers = new Object[m.getParameterCount()];
        for (int p = 0; p < numbers.length; p++) numbers[p] = anyNumber();
        String call = m.getName() + Arrays.toString(numbers);
        try {
            check.holds(call + " answers NONE or more", (int) m.invoke(x, numbers) >= NONE);
        } catch (InvocationTargetException thrown) {
            check.holds(call + " threw " + thrown.getCause(), false);
        }
    }

    private void run() throws IllegalAccessException {
        for (int run = 0; run < 100; run++) {
            seed = run;
            BondedWires x = new BondedWires();
            for (int call = 0; call < 2000; call++) {
                if (call % 400 == 0) {
                    x.wipe();
                    for (char letter : TEXTS[dice(TEXTS.length)].toCharArray()) x.write(letter);
                    x.lay();
                }
                anyCall(x);
            }
        }
        check.end();
    }

    public static void main(String[] args) throws IllegalAccessException {
        new AnyCallTests().run();
    }
}
