import java.util.ArrayList;
import java.util.List;

/** One object under test, and the run of calls on it, to be printed where an answer is not the one due. */
final class Trial {
    /** What later calls answer is free, so a test that makes more of them tests nothing. */
    private static final int MOST_CALLS = 512;
    private static final int NO = -2;

    private final BondedWires wires = new BondedWires();
    private final StringBuilder run = new StringBuilder();
    private int calls;

    private int told(int answer, String call, int... arguments) {
        calls++;
        if (calls > MOST_CALLS) throw new IllegalStateException("a test makes more than 512 calls on one object");
        run.append(run.length() == 0 ? "" : " ").append(call).append('(');
        for (int a = 0; a < arguments.length; a++) run.append(a == 0 ? "" : ", ").append(arguments[a]);
        run.append(")=").append(answer);
        return answer;
    }

    int write(int letter) {
        int length = run.length();
        int answer = told(wires.write(letter), "write", letter);
        if (answer >= 0) {
            // A whole text is easier to read than its letters, call by call.
            run.setLength(length);
            run.append((char) letter);
        }
        return answer;
    }
    int wipe() { return told(wires.wipe(), "wipe"); }
    int fault() { return told(wires.fault(), "fault"); }
    int lay() { return told(wires.lay(), "lay"); }
    int set(int i, int what, int v) { return told(wires.set(i, what, v), "set", i, what, v); }
    int limit(int which, int v) { return told(wires.limit(which, v), "limit", which, v); }
    int shift(int s) { return told(wires.shift(s), "shift", s); }
    int undo() { return told(wires.undo(), "undo"); }
    int wire(int i, int what) { return told(wires.wire(i, what), "wire", i, what); }
    int place(int i, int y) { return told(wires.place(i, y), "place", i, y); }
    int height(int i, int y) { return told(wires.height(i, y), "height", i, y); }
    int pair(int i, int k, int what) { return told(wires.pair(i, k, what), "pair", i, k, what); }
    int bond(int i) { return told(wires.bond(i), "bond", i); }
    int take(int i) { return told(wires.take(i), "take", i); }
    int ready() { return told(wires.ready(), "ready"); }
    int order(int k) { return told(wires.order(k), "order", k); }
    int orders() { return told(wires.orders(), "orders"); }
    int stuck() { return told(wires.stuck(), "stuck"); }
    int loop(int i) { return told(wires.loop(i), "loop", i); }
    int mend(int i) { return told(wires.mend(i), "mend", i); }
    int sees(int tier, int from, int to) { return told(wires.sees(tier, from, to), "sees", tier, from, to); }
    int eye(int e, int tier, int from, int to, int bits) {
        return told(wires.eye(e, tier, from, to, bits), "eye", e, tier, from, to, bits);
    }
    int forget() { return told(wires.forget(), "forget"); }
    int explains(int what) { return told(wires.explains(what), "explains", what); }
    int count(int what) { return told(wires.count(what), "count", what); }

    Trial writeAll(String text) {
        for (int at = 0; at < text.length(); at++) write(text.charAt(at));
        return this;
    }

    /** WIRES, LIMITS, SHIFT, what is BONDED, and much that follows from these and the SIGHTS. */
    List<Integer> asItIs() {
        List<Integer> all = new ArrayList<>();
        for (int what = 0; what <= 12; what++) all.add(count(what));
        int wireCount = all.get(0);
        for (int i = 0; i < wireCount; i++) {
            for (int what = 0; what <= 5; what++) all.add(wire(i, what));
        }
        all.addAll(List.of(fault(), ready(), orders(), stuck(), explains(0), explains(1)));
        return all;
    }

    /** As it is, behind each undo, and behind laying what its text holds: what it keeps hidden comes up so. */
    List<Integer> toTheBottom() {
        List<Integer> all = new ArrayList<>(asItIs());
        for (int undone = undo(); undone != NO; undone = undo()) {
            all.add(undone);
            all.addAll(asItIs());
        }
        all.add(forget());
        all.add(lay());
        all.addAll(asItIs());
        return all;
    }

    @Override
    public String toString() {
        return run.toString();
    }
}
