import java.lang.reflect.Method;
import java.util.ArrayList;
import java.util.HashMap;
import java.util.List;
import java.util.Map;

/** Long mixed runs of calls, each answer held against that of PlainWires. The same runs each time. */
public final class ModelTests {
    private static final String[] CALLS = {
        "fault", "lay", "wipe", "set", "set", "set", "limit", "limit", "shift", "undo", "undo", "wire", "place",
        "height", "pair", "pair", "pair", "bond", "bond", "bond", "take", "ready", "ready", "order", "order",
        "orders", "stuck", "stuck", "loop", "mend", "mend", "sees", "eye", "eye", "forget", "explains", "explains",
        "count", "count", "count"};
    private static final int[] ODD = {Integer.MIN_VALUE, Integer.MAX_VALUE, -1, -2, 61, 41, 100, 8, 5};

    private final Check check;
    private final Map<String, Method> ours = new HashMap<>();
    private final Map<String, Method> plain = new HashMap<>();
    private final Map<String, Integer> good = new HashMap<>();
    private long seed;

    private ModelTests(Check check) {
        this.check = check;
        for (Method m : BondedWires.class.getDeclaredMethods()) ours.put(m.getName(), m);
        for (Method m : PlainWires.class.getDeclaredMethods()) plain.put(m.getName(), m);
    }

    private int dice(int sides) {
        seed = seed * 6364136223846793005L + 1442695040888963407L;
        return (int) ((seed >>> 33) % sides);
    }

    private int between(int low, int high) {
        return low + dice(high - low + 1);
    }

    private String limitItem() {
        int which = dice(3);
        return "ght".charAt(which) + "" + between(1, which == 1 ? dice(2) == 0 ? 40 : 4 : dice(2) == 0 ? 9 : 2) + ";";
    }

    /** Some texts are crowded and some wide, so that rings, orders and loops of all kinds come up. */
    private String goodText() {
        StringBuilder t = new StringBuilder("s" + between(8, 40) + ";");
        int wires = dice(9);
        int width = between(4, 60);
        int slant = between(0, 20);
        int tall = between(1, 40);
        for (int i = 0; i < wires; i++) {
            if (dice(4) == 0) t.append(limitItem());
            int pad = dice(3) == 0 ? dice(width + 1) : width * i / 8;
            int finger = Math.max(0, Math.min(60, pad + between(-slant, slant)));
            t.append('w').append(pad).append(',').append(dice(2) * dice(3)).append(',').append(finger).append(',')
                    .append(dice(3)).append(',').append(between(1, tall)).append(';');
        }
        for (int i = dice(3); i > 0; i--) t.append(limitItem());
        return t.toString();
    }

    private String someText() {
        StringBuilder t = new StringBuilder(goodText());
        if (dice(3) > 0) return t.toString();
        int at = dice(t.length());
        String letters = ";,swght0123456789 x";
        switch (dice(4)) {
            case 0 -> t.setCharAt(at, letters.charAt(dice(letters.length())));
            case 1 -> t.insert(at, letters.charAt(dice(letters.length())));
            case 2 -> t.deleteCharAt(at);
            default -> t.setLength(at);
        }
        return t.toString();
    }

    private int orOdd(int usual) {
        return dice(25) == 0 ? ODD[dice(ODD.length)] : usual;
    }

    private int[] argumentsOf(String call) {
        switch (call) {
            case "set": {
                int what = dice(5);
                int v = what == 0 || what == 2 ? dice(61) : what == 4 ? between(1, 40) : dice(3);
                return new int[] {orOdd(dice(8)), orOdd(what), orOdd(v)};
            }
            case "limit": {
                int which = dice(3);
                return new int[] {orOdd(which), orOdd(between(1, which == 1 ? 40 : dice(2) == 0 ? 9 : 2))};
            }
            case "shift": return new int[] {orOdd(between(-10, 10))};
            case "wire": return new int[] {orOdd(dice(8)), orOdd(dice(9))};
            case "place":
            case "height": return new int[] {orOdd(dice(8)), orOdd(dice(42))};
            case "pair": return new int[] {orOdd(dice(8)), orOdd(dice(8)), orOdd(dice(4))};
            case "bond":
            case "take":
            case "loop":
            case "mend":
            case "order": return new int[] {orOdd(dice(8))};
            case "sees": {
                int from = dice(61);
                return new int[] {orOdd(dice(3)), orOdd(from), orOdd(from + between(-1, 20))};
            }
            case "eye": return eyeArguments();
            case "explains": return new int[] {orOdd(dice(2))};
            case "count": return new int[] {orOdd(dice(13))};
            default: return new int[0];
        }
    }

    private PlainWires model;

    /** Mostly what is seen now or with some shift, so that shifts do explain it. */
    private int[] eyeArguments() {
        int tier = dice(3);
        int from = dice(61);
        int to = Math.min(60, from + dice(20));
        int bits = dice(4) == 0 ? dice(1 << (to - from + 2)) : model.sees(tier, from, to);
        return new int[] {orOdd(dice(2)), orOdd(tier), orOdd(from), orOdd(to), orOdd(bits)};
    }

    private boolean call(BondedWires x, String name, int[] a, List<String> run) throws Exception {
        Object[] boxed = new Object[a.length];
        StringBuilder told = new StringBuilder(name).append('(');
        for (int p = 0; p < a.length; p++) {
            boxed[p] = a[p];
            told.append(p == 0 ? "" : ", ").append(a[p]);
        }
        int want = (int) plain.get(name).invoke(model, boxed);
        int got = (int) ours.get(name).invoke(x, boxed);
        run.add(told.append(") ").append(got).toString());
        if (want >= 0) good.merge(name, 1, Integer::sum);
        if (got != want) System.out.println(String.join("\n", run));
        check.due(told.toString(), got, want);
        return got == want;
    }

    private boolean write(BondedWires x, String text, List<String> run) throws Exception {
        boolean same = call(x, "wipe", new int[0], run);
        for (int at = 0; same && at < text.length(); at++) same = call(x, "write", new int[] {text.charAt(at)}, run);
        return same && call(x, "fault", new int[0], run);
    }

    private boolean oneRun(int calls) throws Exception {
        BondedWires x = new BondedWires();
        model = new PlainWires();
        List<String> run = new ArrayList<>();
        boolean same = dice(6) == 0 || write(x, someText(), run) && call(x, "lay", new int[0], run);
        for (int c = 0; same && c < calls; c++) {
            String name = CALLS[dice(CALLS.length)];
            if ((name.equals("lay") || name.equals("wipe")) && dice(8) > 0) name = "count";
            same = call(x, name, argumentsOf(name), run);
            if (same && dice(150) == 0) same = write(x, someText(), run) && call(x, "lay", new int[0], run);
        }
        return same;
    }

    public static void main(String[] args) throws Exception {
        Check check = new Check();
        ModelTests tests = new ModelTests(check);
        boolean same = true;
        for (int run = 1; same && run <= 3000; run++) {
            tests.seed = run;
            same = tests.oneRun(120);
        }
        for (String name : CALLS) {
            check.holds(name + " has often been answered well", tests.good.getOrDefault(name, 0) > 300);
        }
        check.end();
    }
}
