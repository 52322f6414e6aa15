import java.util.ArrayList;
import java.util.List;
import java.util.regex.Matcher;
import java.util.regex.Pattern;

/**
 * The document once more, in the plainest words and without a thought of cost: nothing is kept
 * that can be worked out anew, orders are found by trying all, the text is read by patterns. The
 * program is held against it, so it must share no code with the program.
 */
public final class PlainWires {
    private static final int BAD = -1, NO = -2, FULL = -3, NONE = -4, ZERO = 100000;

    private record Sight(int tier, int from, int to, int bits) { }

    private static final class State {
        int[][] wires = new int[0][];
        int[] limits = {2, 6, 2};
        int shift = 0;
        List<Integer> bonded = new ArrayList<>();

        State copy() {
            State c = new State();
            c.wires = new int[wires.length][];
            for (int i = 0; i < wires.length; i++) {
                c.wires[i] = wires[i].clone();
            }
            c.limits = limits.clone();
            c.shift = shift;
            c.bonded = new ArrayList<>(bonded);
            return c;
        }
    }

    private String text = "";
    private int span;
    private State now = new State();
    private List<State> past = new ArrayList<>();
    private final Sight[] sights = new Sight[2];

    public PlainWires() {
        text = "s20;g2;h6;t2;w10,0,8,1,12;w14,0,16,1,12;w18,1,24,2,16;w22,2,20,0,6;w26,0,32,1,9;";
        lay();
        text = "";
    }

    public int write(int letter) {
        if (letter < 32 || letter > 126) return BAD;
        if (text.length() == 200) return FULL;
        text += (char) letter;
        return text.length();
    }

    public int wipe() {
        int was = text.length();
        text = "";
        return was;
    }

    private static boolean within(String number, int low, int high) {
        int n = Integer.parseInt(number);
        return low <= n && n <= high;
    }

    private static boolean itemIsSo(String item, boolean first, int wiresAhead) {
        if (first) return item.matches("s\\d\\d?;") && within(item.substring(1, item.length() - 1), 8, 40);
        if (item.matches("[gt]\\d\\d?;")) return within(item.substring(1, item.length() - 1), 1, 9);
        if (item.matches("h\\d\\d?;")) return within(item.substring(1, item.length() - 1), 1, 40);
        Matcher m = Pattern.compile("w(\\d\\d?),(\\d\\d?),(\\d\\d?),(\\d\\d?),(\\d\\d?);").matcher(item);
        return m.matches() && wiresAhead < 8 && within(m.group(1), 0, 60) && within(m.group(2), 0, 2)
                && within(m.group(3), 0, 60) && within(m.group(4), 0, 2) && within(m.group(5), 1, 40);
    }

    private List<String> items() {
        List<String> all = new ArrayList<>();
        String rest = text;
        while (!rest.isEmpty()) {
            int end = rest.indexOf(';') < 0 ? rest.length() : rest.indexOf(';') + 1;
            all.add(rest.substring(0, end));
            rest = rest.substring(end);
        }
        return all;
    }

    public int fault() {
        int at = 0;
        int wires = 0;
        for (String item : items()) {
            if (!itemIsSo(item, at == 0, wires)) return at;
            if (item.startsWith("w")) wires++;
            at += item.length();
        }
        return NONE;
    }

    public int lay() {
        if (fault() != NONE || text.isEmpty()) return NO;
        State laid = new State();
        List<int[]> wires = new ArrayList<>();
        for (String item : items()) {
            String[] parts = item.substring(1, item.length() - 1).split(",");
            int[] numbers = new int[parts.length];
            for (int p = 0; p < parts.length; p++) numbers[p] = Integer.parseInt(parts[p]);
            switch (item.charAt(0)) {
                case 's' -> span = numbers[0];
                case 'g' -> laid.limits[0] = numbers[0];
                case 'h' -> laid.limits[1] = numbers[0];
                case 't' -> laid.limits[2] = numbers[0];
                default -> wires.add(numbers);
            }
        }
        laid.wires = wires.toArray(new int[0][]);
        now = laid;
        past = new ArrayList<>();
        sights[0] = null;
        sights[1] = null;
        return wires.size();
    }

    private boolean wireIs(int i) {
        return 0 <= i && i < now.wires.length;
    }

    private void keep() {
        past.add(now.copy());
        if (past.size() > 6) past.remove(0);
    }

    public int set(int i, int what, int v) {
        if (!wireIs(i) || what < 0 || what > 4) return BAD;
        int low = what == 4 ? 1 : 0;
        int high = what == 0 || what == 2 ? 60 : what == 4 ? 40 : 2;
        if (v < low || v > high) return BAD;
        if (now.wires[i][what] == v) return NO;
        keep();
        int was = now.wires[i][what];
        now.wires[i][what] = v;
        return was;
    }

    public int limit(int which, int v) {
        if (which < 0 || which > 2 || v < 1 || v > (which == 1 ? 40 : 9)) return BAD;
        if (now.limits[which] == v) return NO;
        keep();
        int was = now.limits[which];
        now.limits[which] = v;
        return was;
    }

    public int shift(int s) {
        if (s < -9 || s > 9) return BAD;
        if (now.shift == s) return NO;
        keep();
        int was = now.shift;
        now.shift = s;
        return was + ZERO;
    }

    public int undo() {
        if (past.isEmpty()) return NO;
        now = past.remove(past.size() - 1);
        return past.size();
    }

    private int placeOf(int i, int y) {
        return (now.wires[i][0] + now.shift) * (span - y) + now.wires[i][2] * y;
    }

    private int heightOf(int i, int y) {
        int base = 10 * now.wires[i][1];
        int peak = now.wires[i][4];
        if (y == span) return 0;
        if (y == 0) return base;
        switch (now.wires[i][3]) {
            case 0: return base + peak;
            case 1: return base * (span - y) / span + 4 * peak * y * (span - y) / (span * span);
            default:
                int q = span / 4;
                return y < q ? base + peak * y / q : (base + peak) * (span - y) / (span - q);
        }
    }

    private int longOf(int i) {
        int sum = span + Math.abs(placeOf(i, 0) - placeOf(i, span)) / span;
        for (int y = 0; y < span; y++) sum += Math.abs(heightOf(i, y) - heightOf(i, y + 1));
        return sum;
    }

    private int greatest(int i) {
        int top = 0;
        for (int y = 0; y <= span; y++) top = Math.max(top, heightOf(i, y));
        return top;
    }

    public int wire(int i, int what) {
        if (!wireIs(i) || what < 0 || what > 8) return BAD;
        if (what <= 4) return now.wires[i][what];
        if (what == 5) return now.bonded.contains(i) ? 1 : 0;
        if (what == 6) return longOf(i);
        if (what == 7) return greatest(i);
        int y = 0;
        while (heightOf(i, y) != greatest(i)) y++;
        return y;
    }

    public int place(int i, int y) {
        return wireIs(i) && 0 <= y && y <= span ? placeOf(i, y) + ZERO : BAD;
    }

    public int height(int i, int y) {
        return wireIs(i) && 0 <= y && y <= span ? heightOf(i, y) : BAD;
    }

    private List<Integer> rowsNear(int i, int k) {
        List<Integer> rows = new ArrayList<>();
        for (int y = 0; y <= span; y++) {
            boolean close = Math.abs(placeOf(i, y) - placeOf(k, y)) < now.limits[0] * span;
            boolean alike = Math.abs(heightOf(i, y) - heightOf(k, y)) < now.limits[1];
            if (close && alike) rows.add(y);
        }
        return rows;
    }

    private boolean crossing(int i, int k) {
        return placeOf(i, 0) < placeOf(k, 0) && placeOf(k, span) < placeOf(i, span)
                || placeOf(k, 0) < placeOf(i, 0) && placeOf(i, span) < placeOf(k, span);
    }

    private boolean inTheWay(int k, int i) {
        for (int end : new int[] {0, span}) {
            for (int y = 0; y <= span; y++) {
                int h = heightOf(k, y) - heightOf(i, end);
                int d = Math.abs(y - end);
                int apart = Math.abs(placeOf(k, y) - placeOf(i, end));
                int wide = 2 * now.limits[2] + h;
                if (h >= 0 && 2 * d < wide && 2 * apart < span * wide) return true;
            }
        }
        return false;
    }

    public int pair(int i, int k, int what) {
        if (!wireIs(i) || !wireIs(k) || i == k || what < 0 || what > 3) return BAD;
        List<Integer> rows = rowsNear(i, k);
        if (what == 0) return rows.isEmpty() ? NONE : rows.get(0);
        if (what == 1) return rows.size();
        return (what == 2 ? crossing(i, k) : inTheWay(k, i)) ? 1 : 0;
    }

    private boolean bondable(int i) {
        if (now.bonded.contains(i)) return false;
        for (int k : now.bonded) if (inTheWay(k, i)) return false;
        return true;
    }

    public int bond(int i) {
        if (!wireIs(i)) return BAD;
        if (!bondable(i)) return NO;
        keep();
        now.bonded.add(i);
        return now.bonded.size();
    }

    public int take(int i) {
        if (!wireIs(i)) return BAD;
        if (!now.bonded.contains(i)) return NO;
        keep();
        now.bonded.remove(Integer.valueOf(i));
        return now.bonded.size();
    }

    public int ready() {
        int bits = 0;
        for (int i = 0; i < now.wires.length; i++) if (bondable(i)) bits += 1 << i;
        return bits;
    }

    /** Puts one wire more behind those that stand; keeps the first order found, counts all. */
    private int ordersFrom(List<Integer> ahead, boolean[][] way, List<Integer> firstFound) {
        if (ahead.size() == now.wires.length) {
            if (firstFound.isEmpty()) firstFound.addAll(ahead);
            return 1;
        }
        int sum = 0;
        for (int i = 0; i < now.wires.length; i++) {
            boolean fits = !ahead.contains(i);
            for (int k : ahead) fits &= !way[k][i];
            if (fits) {
                ahead.add(i);
                sum += ordersFrom(ahead, way, firstFound);
                ahead.remove(ahead.size() - 1);
            }
        }
        return sum;
    }

    private boolean[][] ways() {
        int n = now.wires.length;
        boolean[][] way = new boolean[n][n];
        for (int k = 0; k < n; k++) for (int i = 0; i < n; i++) way[k][i] = i != k && inTheWay(k, i);
        return way;
    }

    public int order(int k) {
        if (k < 0 || k > 7) return BAD;
        List<Integer> found = new ArrayList<>();
        if (ordersFrom(new ArrayList<>(), ways(), found) == 0) return NO;
        return k < found.size() ? found.get(k) : NONE;
    }

    public int orders() {
        return ordersFrom(new ArrayList<>(), ways(), new ArrayList<>());
    }

    public int stuck() {
        boolean[][] way = ways();
        List<Integer> remain = new ArrayList<>();
        for (int i = 0; i < now.wires.length; i++) remain.add(i);
        boolean leftOut = true;
        while (leftOut) {
            leftOut = remain.removeIf(k -> {
                for (int i : remain) if (way[k][i]) return false;
                return true;
            });
        }
        int bits = 0;
        for (int i : remain) bits += 1 << i;
        return bits;
    }

    private boolean mendedAsItIs(int i) {
        for (int k = 0; k < now.wires.length; k++) {
            if (k == i) continue;
            if (!rowsNear(i, k).isEmpty() || inTheWay(k, i) && inTheWay(i, k)) return false;
        }
        return true;
    }

    /** All loops that mend, each as {how far, other shape, shape, peak}; the least of these is it. */
    private int[] theLoop(int i) {
        int shape = now.wires[i][3];
        int peak = now.wires[i][4];
        List<int[]> all = new ArrayList<>();
        for (int s = 0; s < 3; s++) {
            for (int p = 1; p <= 40; p++) {
                now.wires[i][3] = s;
                now.wires[i][4] = p;
                if (mendedAsItIs(i)) all.add(new int[] {Math.abs(p - peak), s == shape ? 0 : 1, s, p});
            }
        }
        now.wires[i][3] = shape;
        now.wires[i][4] = peak;
        return all.stream().min(java.util.Arrays::compare).orElse(null);
    }

    public int loop(int i) {
        if (!wireIs(i)) return BAD;
        int[] best = theLoop(i);
        return best == null ? NONE : 100 * best[2] + best[3];
    }

    public int mend(int i) {
        if (!wireIs(i)) return BAD;
        int[] best = theLoop(i);
        if (best == null) return NONE;
        if (best[0] == 0 && best[1] == 0) return NO;
        keep();
        now.wires[i][3] = best[2];
        now.wires[i][4] = best[3];
        return best[0];
    }

    private boolean stands(int tier, int number, int shift) {
        for (int[] w : now.wires) if (w[1] == tier && w[0] + shift == number) return true;
        return false;
    }

    private int seen(int tier, int from, int to, int shift) {
        int bits = 0;
        for (int n = from; n <= to; n++) {
            boolean hidden = false;
            for (int higher = tier + 1; higher <= 2; higher++) hidden |= stands(higher, n, shift);
            if (stands(tier, n, shift) && !hidden) bits += 1 << (n - from);
        }
        return bits;
    }

    private static boolean lookIs(int tier, int from, int to) {
        if (tier < 0 || tier > 2 || from < 0 || from > 60 || to < 0 || to > 60) return false;
        return from <= to && to - from + 1 <= 20;
    }

    public int sees(int tier, int from, int to) {
        return lookIs(tier, from, to) ? seen(tier, from, to, now.shift) : BAD;
    }

    private int told() {
        return (sights[0] == null ? 0 : 1) + (sights[1] == null ? 0 : 1);
    }

    public int eye(int e, int tier, int from, int to, int bits) {
        if (e < 0 || e > 1 || !lookIs(tier, from, to)) return BAD;
        if (bits < 0 || bits > (1 << (to - from + 1)) - 1) return BAD;
        sights[e] = new Sight(tier, from, to, bits);
        return told();
    }

    public int forget() {
        int were = told();
        sights[0] = null;
        sights[1] = null;
        return were;
    }

    public int explains(int what) {
        if (what != 0 && what != 1) return BAD;
        int all = 0;
        int best = NONE;
        for (int s = -9; s <= 9; s++) {
            boolean so = true;
            for (Sight t : sights) so &= t == null || seen(t.tier(), t.from(), t.to(), s) == t.bits();
            if (!so) continue;
            all++;
            if (best == NONE || Math.abs(s) < Math.abs(best - ZERO)) best = s + ZERO;
        }
        return what == 0 ? all : best;
    }

    public int count(int what) {
        int n = now.wires.length;
        int near = 0;
        int cross = 0;
        int way = 0;
        int length = 0;
        for (int i = 0; i < n; i++) {
            length += longOf(i);
            for (int k = 0; k < n; k++) {
                if (i < k && !rowsNear(i, k).isEmpty()) near++;
                if (i < k && crossing(i, k)) cross++;
                if (i != k && inTheWay(k, i)) way++;
            }
        }
        int[] all = {n, span, now.limits[0], now.limits[1], now.limits[2], now.bonded.size(), near, cross, way,
            past.size(), text.length(), now.shift + ZERO, length};
        return 0 <= what && what < all.length ? all[what] : BAD;
    }
}
