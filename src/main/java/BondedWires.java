/**
 * Wires bonded to a die, as ../shared/DOC.md tells it in its numbered promises. The words in
 * capitals in the comments are the document's own.
 */
public final class BondedWires {

    public static final int BAD = -1, NO = -2, FULL = -3, NONE = -4, ZERO = 100000;

    private static final int PAD = 0, TIER = 1, FINGER = 2, SHAPE = 3, PEAK = 4, NUMBERS = 5;
    private static final int[] LEAST_NUMBER = {0, 0, 0, 0, 1};
    private static final int[] MOST_NUMBER = {60, 2, 60, 2, 40};

    private static final int FLAT = 0, ROUND = 1, SHAPES = 3;

    private static final int GAP = 0, RISE = 1, TOOL = 2, LIMITS = 3;
    private static final int LEAST_LIMIT = 1;
    private static final int[] MOST_LIMIT = {9, 40, 9};
    private static final int[] USUAL_LIMIT = {2, 6, 2};

    private static final int MOST_WIRES = 8;
    private static final int LEAST_SPAN = 8, MOST_SPAN = 40;
    private static final int MOST_PAD = 60, MOST_TIER = 2, MOST_PEAK = 40;
    private static final int MOST_SHIFT = 9;
    private static final int MOST_LETTERS = 200, FIRST_LETTER = 32, LAST_LETTER = 126;
    private static final int MOST_UNDONE = 6;
    private static final int EYES = 2, MOST_SEEN = 20;

    private static final String FIRST_TEXT =
            "s20;g2;h6;t2;w10,0,8,1,12;w14,0,16,1,12;w18,1,24,2,16;w22,2,20,0,6;w26,0,32,1,9;";

    private final Text text;
    private final Draft draft;
    private final Bench bench;
    private final Past past;
    private final View view;
    private final Sequence sequence;
    private final LoopSearch search;
    private final Sights sights;

    /** Promise 1. */
    public BondedWires() {
        text = new Text();
        draft = new Draft();
        bench = new Bench();
        past = new Past();
        view = new View(bench);
        sequence = new Sequence(bench, view);
        search = new LoopSearch(bench, view);
        sights = new Sights(bench);
        for (int at = 0; at < FIRST_TEXT.length(); at++) {
            text.append(FIRST_TEXT.charAt(at));
        }
        layText();
        text.clear();
    }

    // ---- told

    /** Promise 2. */
    public int write(int letter) {
        if (letter < FIRST_LETTER || letter > LAST_LETTER) {
            return BAD;
        }
        return text.append((char) letter) ? text.length : FULL;
    }

    /** Promise 3. */
    public int wipe() {
        int was = text.length;
        text.clear();
        return was;
    }

    /** Promise 4. */
    public int fault() {
        draft.read(text);
        return draft.firstFault;
    }

    /** Promise 5. */
    public int lay() {
        return layText() ? bench.wires : NO;
    }

    /** Promise 6. */
    public int set(int i, int what, int v) {
        if (!isWire(i) || what < 0 || what >= NUMBERS) {
            return BAD;
        }
        if (v < LEAST_NUMBER[what] || v > MOST_NUMBER[what]) {
            return BAD;
        }
        int was = bench.numberOf(i, what);
        if (was == v) {
            return NO;
        }
        past.keep(bench);
        bench.tellNumber(i, what, v);
        view.refresh();
        return was;
    }

    /** Promise 7. */
    public int limit(int which, int v) {
        if (which < 0 || which >= LIMITS || v < LEAST_LIMIT || v > MOST_LIMIT[which]) {
            return BAD;
        }
        int was = bench.limitOf(which);
        if (was == v) {
            return NO;
        }
        past.keep(bench);
        bench.tellLimit(which, v);
        view.refresh();
        return was;
    }

    /** Promise 8. */
    public int shift(int s) {
        if (s < -MOST_SHIFT || s > MOST_SHIFT) {
            return BAD;
        }
        int was = bench.shiftNow();
        if (was == s) {
            return NO;
        }
        past.keep(bench);
        bench.tellShift(s);
        view.refresh();
        return was + ZERO;
    }

    /** Promise 9. */
    public int undo() {
        if (past.held == 0) {
            return NO;
        }
        past.giveBack(bench);
        view.refresh();
        return past.held;
    }

    // ---- wires

    /** Promise 10. */
    public int wire(int i, int what) {
        if (!isWire(i)) {
            return BAD;
        }
        switch (what) {
            case PAD:
            case TIER:
            case FINGER:
            case SHAPE:
            case PEAK:
                return bench.numberOf(i, what);
            case 5:
                return bench.isBonded(i) ? 1 : 0;
            case 6:
                return view.longOf(i);
            case 7:
                return view.heightOf(i, view.topRow(i));
            case 8:
                return view.topRow(i);
            default:
                return BAD;
        }
    }

    /** Promise 11. */
    public int place(int i, int y) {
        return isWire(i) && isRow(y) ? view.placeOf(i, y) + ZERO : BAD;
    }

    /** Promise 12. */
    public int height(int i, int y) {
        return isWire(i) && isRow(y) ? view.heightOf(i, y) : BAD;
    }

    /** Promise 13. */
    public int pair(int i, int k, int what) {
        if (!isWire(i) || !isWire(k) || i == k) {
            return BAD;
        }
        switch (what) {
            case 0:
                return view.firstNear(i, k);
            case 1:
                return view.nearRows(i, k);
            case 2:
                return view.cross(i, k) ? 1 : 0;
            case 3:
                return (view.blockersOf(i) >> k) & 1;
            default:
                return BAD;
        }
    }

    // ---- bonded

    /** Promise 14. */
    public int bond(int i) {
        if (!isWire(i)) {
            return BAD;
        }
        if (!canBeBonded(i)) {
            return NO;
        }
        past.keep(bench);
        bench.tellBonded(bench.bonded() | 1 << i);
        return Integer.bitCount(bench.bonded());
    }

    /** Promise 15. */
    public int take(int i) {
        if (!isWire(i)) {
            return BAD;
        }
        if (!bench.isBonded(i)) {
            return NO;
        }
        past.keep(bench);
        bench.tellBonded(bench.bonded() & ~(1 << i));
        return Integer.bitCount(bench.bonded());
    }

    /** Promise 16. */
    public int ready() {
        int bits = 0;
        for (int i = 0; i < bench.wires; i++) {
            if (canBeBonded(i)) {
                bits |= 1 << i;
            }
        }
        return bits;
    }

    /** Promise 17. */
    public int order(int k) {
        if (k < 0 || k >= MOST_WIRES) {
            return BAD;
        }
        if (sequence.arrange() != 0) {
            return NO;
        }
        return k < bench.wires ? sequence.wireAt(k) : NONE;
    }

    /** Promise 18. */
    public int orders() {
        return sequence.howMany();
    }

    /** Promise 19. */
    public int stuck() {
        return sequence.arrange();
    }

    /** Promise 20. */
    public int loop(int i) {
        if (!isWire(i)) {
            return BAD;
        }
        return search.find(i) ? 100 * search.shape + search.peak : NONE;
    }

    /** Promise 21. */
    public int mend(int i) {
        if (!isWire(i)) {
            return BAD;
        }
        if (!search.find(i)) {
            return NONE;
        }
        int was = bench.numberOf(i, PEAK);
        if (search.shape == bench.numberOf(i, SHAPE) && search.peak == was) {
            return NO;
        }
        past.keep(bench);
        bench.tellNumber(i, SHAPE, search.shape);
        bench.tellNumber(i, PEAK, search.peak);
        view.refresh();
        return Math.abs(search.peak - was);
    }

    // ---- eyes

    /** Promise 22. */
    public int sees(int tier, int from, int to) {
        return isLook(tier, from, to) ? sights.seen(tier, from, to, bench.shiftNow()) : BAD;
    }

    /** Promise 23. */
    public int eye(int e, int tier, int from, int to, int bits) {
        if (e < 0 || e >= EYES || !isLook(tier, from, to)) {
            return BAD;
        }
        if (bits < 0 || bits >= 1 << (to - from + 1)) {
            return BAD;
        }
        sights.tell(e, tier, from, to, bits);
        return sights.howMany();
    }

    /** Promise 24. */
    public int forget() {
        int were = sights.howMany();
        sights.clear();
        return were;
    }

    /** Promise 25. */
    public int explains(int what) {
        switch (what) {
            case 0:
                return sights.shiftsThatExplain();
            case 1:
                return sights.nearestShift();
            default:
                return BAD;
        }
    }

    /** Promise 26. */
    public int count(int what) {
        switch (what) {
            case 0:
                return bench.wires;
            case 1:
                return bench.span;
            case 2:
                return bench.limitOf(GAP);
            case 3:
                return bench.limitOf(RISE);
            case 4:
                return bench.limitOf(TOOL);
            case 5:
                return Integer.bitCount(bench.bonded());
            case 6:
                return view.nearPairs();
            case 7:
                return view.crossPairs();
            case 8:
                return view.blockedPairs();
            case 9:
                return past.held;
            case 10:
                return text.length;
            case 11:
                return bench.shiftNow() + ZERO;
            case 12:
                return view.longOfAll();
            default:
                return BAD;
        }
    }

    // ---- what the calls share

    private boolean layText() {
        draft.read(text);
        if (draft.firstFault != NONE || draft.span == 0) {
            return false;
        }
        bench.layFrom(draft);
        past.clear();
        sights.clear();
        view.refresh();
        return true;
    }

    private boolean isWire(int i) {
        return i >= 0 && i < bench.wires;
    }

    private boolean isRow(int y) {
        return y >= 0 && y <= bench.span;
    }

    private boolean canBeBonded(int i) {
        return !bench.isBonded(i) && (view.blockersOf(i) & bench.bonded()) == 0;
    }

    private static boolean isLook(int tier, int from, int to) {
        return tier >= 0 && tier <= MOST_TIER && from >= 0 && from <= to && to <= MOST_PAD
                && to - from < MOST_SEEN;
    }

    /** THE TEXT. */
    private static final class Text {
        private final char[] letters = new char[MOST_LETTERS];
        private int length;

        boolean append(char letter) {
            if (length >= MOST_LETTERS) {
                return false;
            }
            letters[length] = letter;
            length++;
            return true;
        }

        void clear() {
            length = 0;
        }

        /** The letter at a place, or 0, which no TEXT holds, behind the last one. */
        char letterAt(int place) {
            return place >= 0 && place < length ? letters[place] : 0;
        }
    }

    /** What a TEXT tells; it is read apart from the bench, as a TEXT with a FAULT changes nothing. */
    private static final class Draft {
        private final int[] numbers = new int[MOST_WIRES * NUMBERS];
        private final int[] limits = new int[LIMITS];
        /** 0 until an s has told it. */
        private int span;
        private int wires;
        private int firstFault;
        private int at;

        void read(Text text) {
            span = 0;
            wires = 0;
            at = 0;
            firstFault = NONE;
            System.arraycopy(USUAL_LIMIT, 0, limits, 0, LIMITS);
            for (int items = 0; items < MOST_LETTERS && at < text.length; items++) {
                int start = at;
                if (!readItem(text)) {
                    firstFault = start;
                    return;
                }
            }
        }

        private boolean readItem(Text text) {
            char kind = text.letterAt(at);
            at++;
            if ((kind == 's') != (span == 0)) {
                return false;
            }
            switch (kind) {
                case 's':
                    return readSpan(text);
                case 'g':
                    return readLimit(text, GAP);
                case 'h':
                    return readLimit(text, RISE);
                case 't':
                    return readLimit(text, TOOL);
                case 'w':
                    return readWire(text);
                default:
                    return false;
            }
        }

        private boolean readSpan(Text text) {
            int value = readNumber(text, ';');
            if (value < LEAST_SPAN || value > MOST_SPAN) {
                return false;
            }
            span = value;
            return true;
        }

        private boolean readLimit(Text text, int which) {
            int value = readNumber(text, ';');
            if (value < LEAST_LIMIT || value > MOST_LIMIT[which]) {
                return false;
            }
            limits[which] = value;
            return true;
        }

        private boolean readWire(Text text) {
            if (wires >= MOST_WIRES) {
                return false;
            }
            for (int what = 0; what < NUMBERS; what++) {
                int value = readNumber(text, what == NUMBERS - 1 ? ';' : ',');
                if (value < LEAST_NUMBER[what] || value > MOST_NUMBER[what]) {
                    return false;
                }
                numbers[wires * NUMBERS + what] = value;
            }
            wires++;
            return true;
        }

        /** One or two figures and the letter that ends them; -1, which no range holds, if not so. */
        private int readNumber(Text text, char end) {
            int value = figure(text.letterAt(at));
            if (value < 0) {
                return -1;
            }
            at++;
            int second = figure(text.letterAt(at));
            if (second >= 0) {
                value = 10 * value + second;
                at++;
            }
            if (text.letterAt(at) != end) {
                return -1;
            }
            at++;
            return value;
        }

        private static int figure(char letter) {
            return letter >= '0' && letter <= '9' ? letter - '0' : -1;
        }
    }

    /** All that a change can change lies in one row, so that one copy keeps it for undoing. */
    private static final class Bench {
        private static final int LIMITS_AT = MOST_WIRES * NUMBERS;
        private static final int SHIFT_AT = LIMITS_AT + LIMITS;
        private static final int BONDED_AT = SHIFT_AT + 1;
        private static final int SIZE = BONDED_AT + 1;

        private final int[] now = new int[SIZE];
        private int span;
        private int wires;

        void layFrom(Draft draft) {
            span = draft.span;
            wires = draft.wires;
            System.arraycopy(draft.numbers, 0, now, 0, LIMITS_AT);
            System.arraycopy(draft.limits, 0, now, LIMITS_AT, LIMITS);
            now[SHIFT_AT] = 0;
            now[BONDED_AT] = 0;
        }

        int numberOf(int i, int what) {
            return now[i * NUMBERS + what];
        }

        void tellNumber(int i, int what, int v) {
            now[i * NUMBERS + what] = v;
        }

        int limitOf(int which) {
            return now[LIMITS_AT + which];
        }

        void tellLimit(int which, int v) {
            now[LIMITS_AT + which] = v;
        }

        int shiftNow() {
            return now[SHIFT_AT];
        }

        void tellShift(int s) {
            now[SHIFT_AT] = s;
        }

        /** BONDED WIRES, as bits. */
        int bonded() {
            return now[BONDED_AT];
        }

        void tellBonded(int bits) {
            now[BONDED_AT] = bits;
        }

        boolean isBonded(int i) {
            return (bonded() & 1 << i) != 0;
        }
    }

    /** What was ahead of the latest changes: a ring, in which the oldest gives way to the newest. */
    private static final class Past {
        private final int[][] rows = new int[MOST_UNDONE][Bench.SIZE];
        private int next;
        private int held;

        void clear() {
            held = 0;
        }

        void keep(Bench bench) {
            System.arraycopy(bench.now, 0, rows[next], 0, Bench.SIZE);
            next = next + 1 < MOST_UNDONE ? next + 1 : 0;
            held = Math.min(held + 1, MOST_UNDONE);
        }

        void giveBack(Bench bench) {
            if (held == 0) {
                return;
            }
            next = next > 0 ? next - 1 : MOST_UNDONE - 1;
            held--;
            System.arraycopy(rows[next], 0, bench.now, 0, Bench.SIZE);
        }
    }

    /** PLACES and HEIGHTS of all WIRES at all ROWS, and what follows from them for two WIRES. */
    private static final class View {
        private final Bench bench;
        private final int[][] places = new int[MOST_WIRES][MOST_SPAN + 1];
        private final int[][] heights = new int[MOST_WIRES][MOST_SPAN + 1];
        /** For each WIRE those IN THE WAY of it, as bits. */
        private final int[] blockers = new int[MOST_WIRES];
        private final int[] blocked = new int[MOST_WIRES];
        /** Not all changes are followed by a question who is IN THE WAY, and that is dear to find. */
        private boolean blockersKnown;

        View(Bench bench) {
            this.bench = bench;
        }

        /** To be called behind each change of WIRES, LIMITS or SHIFT. */
        void refresh() {
            for (int i = 0; i < bench.wires; i++) {
                fillPlaces(i);
                fillHeights(heights[i], i, bench.numberOf(i, SHAPE), bench.numberOf(i, PEAK));
            }
            blockersKnown = false;
        }

        private void fillPlaces(int i) {
            int x = bench.numberOf(i, PAD) + bench.shiftNow();
            int finger = bench.numberOf(i, FINGER);
            for (int y = 0; y <= bench.span; y++) {
                places[i][y] = x * (bench.span - y) + finger * y;
            }
        }

        /** HEIGHTS that a WIRE would have with a LOOP, its own or another one. */
        void fillHeights(int[] row, int i, int shape, int peak) {
            int base = 10 * bench.numberOf(i, TIER);
            row[0] = base;
            for (int y = 1; y < bench.span; y++) {
                row[y] = heightBetween(base, shape, peak, y);
            }
            row[bench.span] = 0;
        }

        private int heightBetween(int base, int shape, int peak, int y) {
            int span = bench.span;
            if (shape == FLAT) {
                return base + peak;
            }
            if (shape == ROUND) {
                return cut(base * (span - y), span) + cut(4 * peak * y * (span - y), span * span);
            }
            int q = cut(span, 4);
            if (y < q) {
                return base + cut(peak * y, q);
            }
            return cut((base + peak) * (span - y), span - q);
        }

        private static int cut(int whole, int parts) {
            return parts > 0 ? whole / parts : 0;
        }

        int placeOf(int i, int y) {
            return places[i][y];
        }

        int heightOf(int i, int y) {
            return heights[i][y];
        }

        int longOf(int i) {
            int[] row = heights[i];
            int span = bench.span;
            int sum = span + cut(Math.abs(places[i][0] - places[i][span]), span);
            for (int y = 0; y < span; y++) {
                sum += Math.abs(row[y] - row[y + 1]);
            }
            return sum;
        }

        int longOfAll() {
            int sum = 0;
            for (int i = 0; i < bench.wires; i++) {
                sum += longOf(i);
            }
            return sum;
        }

        /** The lowest ROW at which a WIRE is as high as it gets. */
        int topRow(int i) {
            int top = 0;
            for (int y = 1; y <= bench.span; y++) {
                if (heights[i][y] > heights[i][top]) {
                    top = y;
                }
            }
            return top;
        }

        /** Whether the PLACES of two WIRES are as close at a ROW as NEAR ones are. */
        boolean closeAt(int i, int k, int y) {
            return Math.abs(places[i][y] - places[k][y]) < bench.limitOf(GAP) * bench.span;
        }

        private boolean nearAt(int i, int k, int y) {
            return closeAt(i, k, y)
                    && Math.abs(heights[i][y] - heights[k][y]) < bench.limitOf(RISE);
        }

        int firstNear(int i, int k) {
            for (int y = 0; y <= bench.span; y++) {
                if (nearAt(i, k, y)) {
                    return y;
                }
            }
            return NONE;
        }

        int nearRows(int i, int k) {
            int rows = 0;
            for (int y = 0; y <= bench.span; y++) {
                if (nearAt(i, k, y)) {
                    rows++;
                }
            }
            return rows;
        }

        boolean cross(int i, int k) {
            int pads = Integer.compare(places[i][0], places[k][0]);
            int fingers = Integer.compare(places[i][bench.span], places[k][bench.span]);
            return pads * fingers < 0;
        }

        int nearPairs() {
            int pairs = 0;
            for (int i = 0; i < bench.wires; i++) {
                for (int k = i + 1; k < bench.wires; k++) {
                    if (firstNear(i, k) != NONE) {
                        pairs++;
                    }
                }
            }
            return pairs;
        }

        int crossPairs() {
            int pairs = 0;
            for (int i = 0; i < bench.wires; i++) {
                for (int k = i + 1; k < bench.wires; k++) {
                    if (cross(i, k)) {
                        pairs++;
                    }
                }
            }
            return pairs;
        }

        int blockedPairs() {
            int pairs = 0;
            for (int i = 0; i < bench.wires; i++) {
                pairs += Integer.bitCount(blockersOf(i));
            }
            return pairs;
        }

        int blockersOf(int i) {
            findBlockers();
            return blockers[i];
        }

        /** For each WIRE those that it is IN THE WAY of, as bits; only to be looked at. */
        int[] blockedByEach() {
            findBlockers();
            return blocked;
        }

        private void findBlockers() {
            if (blockersKnown) {
                return;
            }
            for (int i = 0; i < MOST_WIRES; i++) {
                blockers[i] = 0;
                blocked[i] = 0;
            }
            for (int i = 0; i < bench.wires; i++) {
                for (int k = 0; k < bench.wires; k++) {
                    if (i != k && isInTheWay(k, heights[k], i)) {
                        blockers[i] |= 1 << k;
                        blocked[k] |= 1 << i;
                    }
                }
            }
            blockersKnown = true;
        }

        /** Whether k, with these HEIGHTS, is IN THE WAY of i. */
        boolean isInTheWay(int k, int[] heightsOfK, int i) {
            return isOverEnd(k, heightsOfK, i, 0) || isOverEnd(k, heightsOfK, i, bench.span);
        }

        private boolean isOverEnd(int k, int[] heightsOfK, int i, int end) {
            int span = bench.span;
            int tool = 2 * bench.limitOf(TOOL);
            int endPlace = places[i][end];
            int endHeight = heights[i][end];
            for (int y = 0; y <= span; y++) {
                int higher = heightsOfK[y] - endHeight;
                int width = tool + higher;
                if (higher >= 0 && 2 * Math.abs(y - end) < width
                        && 2 * Math.abs(places[k][y] - endPlace) < span * width) {
                    return true;
                }
            }
            return false;
        }
    }

    /** THE ORDER, how many ORDERS there are, and which WIRES are STUCK. */
    private static final class Sequence {
        private final Bench bench;
        private final View view;
        private final int[] wiresInOrder = new int[MOST_WIRES];
        /** For each set of WIRES (bits) in how many ways these can be the first ones. */
        private final int[] ways = new int[1 << MOST_WIRES];

        Sequence(Bench bench, View view) {
            this.bench = bench;
            this.view = view;
        }

        /**
         * Leaves out WIRES, always the lowest that can be, and answers those that remain (bits).
         * A WIRE that is left out can be bonded ahead of all that remain, so where none remains
         * they were left out in THE ORDER.
         */
        int arrange() {
            int[] blocked = view.blockedByEach();
            int remaining = (1 << bench.wires) - 1;
            for (int step = 0; step < bench.wires; step++) {
                int i = lowestFree(remaining, blocked);
                if (i < 0) {
                    return remaining;
                }
                wiresInOrder[step] = i;
                remaining &= ~(1 << i);
            }
            return remaining;
        }

        /** The lowest of these WIRES that is IN THE WAY of no other one of them; -1 if none is so. */
        private int lowestFree(int remaining, int[] blocked) {
            for (int i = 0; i < bench.wires; i++) {
                if ((remaining & 1 << i) != 0 && (blocked[i] & remaining) == 0) {
                    return i;
                }
            }
            return -1;
        }

        /** Only behind arrange() has answered that none remains. */
        int wireAt(int k) {
            return wiresInOrder[k];
        }

        int howMany() {
            int[] blocked = view.blockedByEach();
            int all = (1 << bench.wires) - 1;
            ways[0] = 1;
            for (int first = 1; first <= all; first++) {
                ways[first] = waysOf(first, blocked);
            }
            return ways[all];
        }

        /** The last of these WIRES must have all that it is IN THE WAY of ahead of it. */
        private int waysOf(int first, int[] blocked) {
            int sum = 0;
            for (int last = 0; last < bench.wires; last++) {
                if ((first & 1 << last) != 0 && (blocked[last] & ~first) == 0) {
                    sum += ways[first & ~(1 << last)];
                }
            }
            return sum;
        }
    }

    /** Finds THE LOOP of a WIRE. */
    private static final class LoopSearch {
        private final Bench bench;
        private final View view;
        private final int[] trial = new int[MOST_SPAN + 1];
        /** For each other WIRE the ROWS (bits) at which it is close; a LOOP does not change that. */
        private final long[] closeRows = new long[MOST_WIRES];
        /** Those IN THE WAY of the WIRE; a LOOP leaves both its ends, and so these, as they are. */
        private int blockers;
        private int shape;
        private int peak;

        LoopSearch(Bench bench, View view) {
            this.bench = bench;
            this.view = view;
        }

        /** Whether there is one; shape and peak are its own then. */
        boolean find(int i) {
            findCloseRows(i);
            blockers = view.blockersOf(i);
            int ownShape = bench.numberOf(i, SHAPE);
            int ownPeak = bench.numberOf(i, PEAK);
            for (int far = 0; far < MOST_PEAK; far++) {
                for (int turn = 0; turn < SHAPES; turn++) {
                    int tried = shapeAtTurn(ownShape, turn);
                    if (mends(i, tried, ownPeak - far) || mends(i, tried, ownPeak + far)) {
                        return true;
                    }
                }
            }
            return false;
        }

        private void findCloseRows(int i) {
            for (int k = 0; k < bench.wires; k++) {
                long rows = 0;
                for (int y = 0; y <= bench.span; y++) {
                    if (view.closeAt(i, k, y)) {
                        rows |= 1L << y;
                    }
                }
                closeRows[k] = rows;
            }
        }

        /** The own SHAPE first, then the other ones, the lowest first. */
        private static int shapeAtTurn(int ownShape, int turn) {
            if (turn == 0) {
                return ownShape;
            }
            return turn <= ownShape ? turn - 1 : turn;
        }

        private boolean mends(int i, int triedShape, int triedPeak) {
            if (triedPeak < 1 || triedPeak > MOST_PEAK) {
                return false;
            }
            view.fillHeights(trial, i, triedShape, triedPeak);
            for (int k = 0; k < bench.wires; k++) {
                if (k != i && (isNear(k) || isMutual(i, k))) {
                    return false;
                }
            }
            shape = triedShape;
            peak = triedPeak;
            return true;
        }

        private boolean isNear(int k) {
            long rows = closeRows[k];
            for (int y = 0; y <= bench.span && rows != 0; y++) {
                if ((rows & 1) != 0
                        && Math.abs(trial[y] - view.heightOf(k, y)) < bench.limitOf(RISE)) {
                    return true;
                }
                rows >>>= 1;
            }
            return false;
        }

        private boolean isMutual(int i, int k) {
            return (blockers & 1 << k) != 0 && view.isInTheWay(i, trial, k);
        }
    }

    /** What the EYES were told to have seen, and what they would SEE. */
    private static final class Sights {
        private final Bench bench;
        private final boolean[] told = new boolean[EYES];
        private final int[] tiers = new int[EYES];
        private final int[] firsts = new int[EYES];
        private final int[] lasts = new int[EYES];
        private final int[] saw = new int[EYES];

        Sights(Bench bench) {
            this.bench = bench;
        }

        void clear() {
            for (int e = 0; e < EYES; e++) {
                told[e] = false;
            }
        }

        void tell(int e, int tier, int from, int to, int bits) {
            told[e] = true;
            tiers[e] = tier;
            firsts[e] = from;
            lasts[e] = to;
            saw[e] = bits;
        }

        int howMany() {
            int sum = 0;
            for (int e = 0; e < EYES; e++) {
                if (told[e]) {
                    sum++;
                }
            }
            return sum;
        }

        int seen(int tier, int from, int to, int shift) {
            int bits = 0;
            int hidden = 0;
            for (int i = 0; i < bench.wires; i++) {
                int x = bench.numberOf(i, PAD) + shift;
                int padTier = bench.numberOf(i, TIER);
                if (x >= from && x <= to && padTier == tier) {
                    bits |= 1 << (x - from);
                }
                if (x >= from && x <= to && padTier > tier) {
                    hidden |= 1 << (x - from);
                }
            }
            return bits & ~hidden;
        }

        int shiftsThatExplain() {
            int sum = 0;
            for (int s = -MOST_SHIFT; s <= MOST_SHIFT; s++) {
                if (isExplainedBy(s)) {
                    sum++;
                }
            }
            return sum;
        }

        /** With ZERO, as it is answered; NONE if no SHIFT EXPLAINS. */
        int nearestShift() {
            for (int far = 0; far <= MOST_SHIFT; far++) {
                if (isExplainedBy(-far)) {
                    return ZERO - far;
                }
                if (isExplainedBy(far)) {
                    return ZERO + far;
                }
            }
            return NONE;
        }

        private boolean isExplainedBy(int shift) {
            for (int e = 0; e < EYES; e++) {
                if (told[e] && seen(tiers[e], firsts[e], lasts[e], shift) != saw[e]) {
                    return false;
                }
            }
            return true;
        }
    }
}
