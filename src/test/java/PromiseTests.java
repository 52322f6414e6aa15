/** For each promise of the document calls whose answers were worked out by hand from its words. */
public final class PromiseTests {
    private static final int BAD = -1, NO = -2, FULL = -3, NONE = -4, ZERO = 100000;
    private static final int LEAST = Integer.MIN_VALUE, MOST = Integer.MAX_VALUE;

    private static final Check check = new Check();
    private static BondedWires x;

    private static void due(String what, int got, int want) {
        check.due(what, got, want);
    }

    private static void writeAll(String text) {
        x.wipe();
        for (int at = 0; at < text.length(); at++) {
            x.write(text.charAt(at));
        }
    }

    /** A new object with this text laid. */
    private static void laid(String text) {
        x = new BondedWires();
        writeAll(text);
        check.holds("2, 5: " + text + " is laid", x.lay() >= 0);
    }

    private static void newObject() {
        x = new BondedWires();
        int[] counts = {5, 20, 2, 6, 2, 0};
        for (int what = 0; what < counts.length; what++) due("1: count(" + what + ")", x.count(what), counts[what]);
        int[][] wires = {{10, 0, 8, 1, 12}, {14, 0, 16, 1, 12}, {18, 1, 24, 2, 16}, {22, 2, 20, 0, 6}, {26, 0, 32, 1, 9}};
        for (int i = 0; i < 5; i++) {
            for (int what = 0; what < 5; what++) due("1: wire(" + i + ", " + what + ")", x.wire(i, what), wires[i][what]);
            due("1: not bonded", x.wire(i, 5), 0);
        }
        due("1: no text", x.count(10), 0);
        due("1: no text", x.wipe(), 0);
        due("1: shift", x.count(11), ZERO);
        due("1: nothing to undo", x.undo(), NO);
        due("1: no sights", x.forget(), 0);
        BondedWires other = new BondedWires();
        x.set(0, 0, 60);
        x.write('s');
        due("1: objects have nothing in common", other.wire(0, 0), 10);
        due("1: objects have nothing in common", other.count(10), 0);
    }

    private static void write() {
        x = new BondedWires();
        for (int letter : new int[] {LEAST, -1, 0, 31, 127, 128, 32 + 256, 32 + 65536, MOST}) {
            due("2: write(" + letter + ")", x.write(letter), BAD);
        }
        due("2: the first letter", x.write(32), 1);
        due("2: the last letter", x.write(126), 2);
        for (int length = 3; length <= 200; length++) due("2: write", x.write('a'), length);
        due("2: full", x.write('a'), FULL);
        due("2: bad ahead of full", x.write(127), BAD);
        due("2: nothing came behind it", x.count(10), 200);
        x.wipe();
        due("2: room again", x.write('a'), 1);
    }

    private static void wipe() {
        x = new BondedWires();
        due("3: of an empty text", x.wipe(), 0);
        writeAll("s8;g3;");
        due("3: how long it was", x.wipe(), 6);
        due("3: it is empty", x.count(10), 0);
        due("3: it is empty", x.lay(), NO);
        writeAll("g1;");
        due("3: nothing of the old text comes back", x.fault(), 0);
    }

    private static void faultOf(String text, int want) {
        x = new BondedWires();
        writeAll(text);
        due("4: fault of " + text, x.fault(), want);
        due("4: it does not change the text", x.count(10), text.length());
        due("5: lay of " + text, x.lay() < 0 ? NO : 0, want == NONE && !text.isEmpty() ? 0 : NO);
    }

    private static void fault() {
        String wire = "w0,0,0,0,1;";
        for (String text : new String[] {"", "s8;", "s08;", "s40;", "s20;g1;g9;g5;", "s8;h1;h40;", "s8;t1;t9;", "s8;g01;",
            "s8;w60,2,60,2,40;", "s8;w00,00,00,00,01;", "s8;" + wire.repeat(8), "s8;" + wire + "g3;" + wire}) {
            faultOf(text, NONE);
        }
        for (String text : new String[] {"s", "s;", "s8", "s8,", "s7;", "s41;", "s008;", "s100;", "S8;", " s8;", ";", "g2;",
            "w0,0,0,0,1;s8;", "s 8;", "s-8;", "s+8;", "s8 ;", "x", "s8w;", "s8:", "s8/;"}) {
            faultOf(text, 0);
        }
        for (String item : new String[] {"s9;", "s8;", "g0;", "g10;", "g;", "g", "g1", "g001;", "G1;", "h0;", "h41;", "h100;",
            "t0;", "t10;", "t1,", ";", " ", "x1;", "w", "w;", "w0,0,0,0;", "w0,0,0,0,1", "w0,0,0,0,1,", "w0,0,0,0,1,1;",
            "w61,0,0,0,1;", "w0,3,0,0,1;", "w0,0,61,0,1;", "w0,0,0,3,1;", "w0,0,0,0,0;", "w0,0,0,0,41;", "w,0,0,0,1;",
            "w0;0,0,0,1;", "w000,0,0,0,1;", "w0,0,0,0,001;", "w0, 0,0,0,1;", "w-1,0,0,0,1;"}) {
            faultOf("s8;" + item, 3);
            faultOf("s8;" + item + "g1;", 3);
            faultOf("s12;" + wire + "t3;" + item, 18);
        }
        faultOf("s8;g1;g0;h0;", 6);
        faultOf("s8;" + wire.repeat(9), 3 + 8 * 11);
        faultOf("s8;" + wire.repeat(8) + "g1;" + wire, 3 + 8 * 11 + 3);
        faultOf("s8;" + "g1;".repeat(65) + "g1", 198);
    }

    private static void lay() {
        x = new BondedWires();
        due("5: an empty text", x.lay(), NO);
        due("5: nothing changed", x.count(0), 5);
        x.shift(3);
        x.bond(0);
        x.limit(0, 9);
        x.limit(1, 9);
        x.limit(2, 9);
        x.eye(1, 0, 0, 0, 0);
        writeAll("s8;w1,2,3,0,4;g0;");
        due("5: a fault", x.lay(), NO);
        due("5: nothing changed", x.count(0), 5);
        due("5: nothing changed", x.count(9), 5);
        due("5: nothing changed", x.wire(0, 0), 10);
        due("5: nothing changed", x.count(11), ZERO + 3);
        writeAll("s30;t4;w1,2,3,0,4;w5,1,6,2,7;t3;");
        due("5: how many wires", x.lay(), 2);
        int[] counts = {2, 30, 2, 6, 3, 0};
        for (int what = 0; what < counts.length; what++) due("5: count(" + what + ")", x.count(what), counts[what]);
        int[][] wires = {{1, 2, 3, 0, 4, 0}, {5, 1, 6, 2, 7, 0}};
        for (int i = 0; i < 2; i++) {
            for (int what = 0; what < 6; what++) due("5: wire(" + i + ", " + what + ")", x.wire(i, what), wires[i][what]);
        }
        due("5: the wires of the old text are gone", x.wire(2, 0), BAD);
        due("5: shift 0", x.count(11), ZERO);
        due("5: nothing can be undone", x.undo(), NO);
        due("5: no sights", x.forget(), 0);
        due("5: the text stays", x.count(10), 32);
        due("5: it can be laid again", x.lay(), 2);
        writeAll("s8;");
        due("5: no wires", x.lay(), 0);
        due("5: limits that are not told are as at first", x.count(2), 2);
        due("5: limits that are not told are as at first", x.count(3), 6);
        due("5: limits that are not told are as at first", x.count(4), 2);
        due("5: no wires", x.wire(0, 0), BAD);
    }

    private static void set() {
        int[] lows = {0, 0, 0, 0, 1};
        int[] highs = {60, 2, 60, 2, 40};
        for (int what = 0; what < 5; what++) {
            laid("s8;w5,1,5,1,5;w7,1,7,1,7;");
            int was = x.wire(1, what);
            for (int v : new int[] {LEAST, lows[what] - 1, highs[what] + 1, MOST}) {
                due("6: set(1, " + what + ", " + v + ")", x.set(1, what, v), BAD);
            }
            due("6: it is so", x.set(1, what, was), NO);
            due("6: bad and so leave no change", x.count(9), 0);
            due("6: what it was", x.set(1, what, lows[what]), was);
            due("6: what it was", x.set(1, what, highs[what]), lows[what]);
            due("6: told anew", x.wire(1, what), highs[what]);
            due("6: the other wire stays", x.wire(0, what), what == 1 || what == 3 ? 1 : 5);
            due("6: each is a change", x.count(9), 2);
        }
        for (int i : new int[] {LEAST, -1, 2, 8, MOST}) due("6: no such wire", x.set(i, 0, 1), BAD);
        for (int what : new int[] {LEAST, -1, 5, MOST}) due("6: no such number", x.set(0, what, 1), BAD);
        x.bond(0);
        due("6: set of a bonded one", x.set(0, 0, 6), 5);
        due("6: what is bonded stays bonded", x.wire(0, 5), 1);
    }

    private static void limit() {
        x = new BondedWires();
        int[] were = {2, 6, 2};
        int[] highs = {9, 40, 9};
        for (int which = 0; which < 3; which++) {
            for (int v : new int[] {LEAST, 0, highs[which] + 1, MOST}) due("7: bad", x.limit(which, v), BAD);
            due("7: it is so", x.limit(which, were[which]), NO);
            due("7: what it was", x.limit(which, highs[which]), were[which]);
            due("7: what it was", x.limit(which, 1), highs[which]);
            due("7: told anew", x.count(2 + which), 1);
        }
        for (int which : new int[] {LEAST, -1, 3, MOST}) due("7: no such limit", x.limit(which, 1), BAD);
        due("7: each is a change", x.count(9), 6);
    }

    private static void shift() {
        x = new BondedWires();
        for (int s : new int[] {LEAST, -10, 10, MOST}) due("8: bad", x.shift(s), BAD);
        due("8: it is so", x.shift(0), NO);
        due("8: what it was", x.shift(-9), ZERO);
        due("8: what it was", x.shift(9), ZERO - 9);
        due("8: it is so", x.shift(9), NO);
        due("8: told anew", x.count(11), ZERO + 9);
        due("8: the pad's number stays", x.wire(0, 0), 10);
        due("8: the pad stands elsewhere", x.place(0, 0), ZERO + 19 * 20);
        due("8: the finger does not", x.place(0, 20), ZERO + 8 * 20);
        due("8: each is a change", x.count(9), 2);
    }

    private static void undo() {
        laid("s8;w0,0,0,0,9;w4,0,4,0,9;w40,0,40,0,1;t1;g1;");
        due("9: laid", x.undo(), NO);
        x.set(2, 0, 41);
        x.limit(0, 3);
        x.shift(5);
        x.bond(0);
        x.mend(1);
        x.take(0);
        due("9: six changes", x.count(9), 6);
        x.eye(0, 0, 0, 0, 1);
        due("9: a call that changes nothing is none", x.take(0), NO);
        due("9: take undone", x.undo(), 5);
        due("9: take undone", x.wire(0, 5), 1);
        due("9: mended, ROUND and 5 high", x.wire(1, 3), 1);
        due("9: mended, ROUND and 5 high", x.wire(1, 4), 5);
        due("9: mend undone", x.undo(), 4);
        due("9: mend undone", x.wire(1, 3), 0);
        due("9: mend undone", x.wire(1, 4), 9);
        due("9: bond undone", x.undo(), 3);
        due("9: bond undone", x.count(5), 0);
        due("9: shift undone", x.undo(), 2);
        due("9: shift undone", x.count(11), ZERO);
        due("9: limit undone", x.undo(), 1);
        due("9: limit undone", x.count(2), 1);
        due("9: set undone", x.undo(), 0);
        due("9: set undone", x.wire(2, 0), 40);
        due("9: none is left", x.undo(), NO);
        due("9: sights stay", x.forget(), 1);
        due("9: the text stays", x.count(10), 44);
        for (int v = 1; v <= 9; v++) x.set(0, 0, v);
        due("9: the last six", x.count(9), 6);
        for (int more = 5; more >= 0; more--) due("9: the last six", x.undo(), more);
        due("9: no more", x.undo(), NO);
        due("9: those ahead of them stand", x.wire(0, 0), 3);
        x.set(0, 0, 30);
        x.set(0, 0, 31);
        x.undo();
        x.set(0, 0, 32);
        due("9: a change behind an undone one", x.undo(), 1);
        due("9: a change behind an undone one", x.wire(0, 0), 30);
        x.undo();
        due("9: who is in the way is told by what is now", x.pair(0, 1, 3), 1);
        x.set(1, 0, 60);
        x.set(1, 2, 60);
        due("9: who is in the way is told by what is now", x.pair(0, 1, 3), 0);
        x.undo();
        x.undo();
        due("9: who is in the way is told by what is now", x.pair(0, 1, 3), 1);
    }

    private static void wire() {
        laid("s10;w3,1,7,2,7;w60,2,0,0,40;w5,1,5,1,7;w9,2,9,1,1;");
        due("10: long of a steep one", x.wire(0, 6), 10 + 4 + 7 + 17);
        due("10: long of a flat one", x.wire(1, 6), 10 + 60 + 40 + 60);
        due("10: long of a round one", x.wire(2, 6), 10 + 0 + 1 + 1 + 12);
        due("10: greatest height", x.wire(0, 7), 17);
        due("10: its row", x.wire(0, 8), 2);
        due("10: greatest height", x.wire(1, 7), 60);
        due("10: its lowest row", x.wire(1, 8), 1);
        due("10: greatest height", x.wire(2, 7), 12);
        due("10: its lowest row", x.wire(2, 8), 2);
        due("10: highest at the die", x.wire(3, 7), 20);
        due("10: highest at the die", x.wire(3, 8), 0);
        x.shift(-9);
        due("10: shift makes it longer", x.wire(0, 6), 10 + 13 + 24);
        due("10: not bonded", x.wire(0, 5), 0);
        x.bond(0);
        due("10: bonded", x.wire(0, 5), 1);
        due("10: not bonded", x.wire(1, 5), 0);
        for (int i : new int[] {LEAST, -1, 4, 8, MOST}) due("10: no such wire", x.wire(i, 0), BAD);
        for (int what : new int[] {LEAST, -1, 9, MOST}) due("10: no such number", x.wire(0, what), BAD);
    }

    private static void place() {
        laid("s9;w5,0,60,0,1;w60,0,0,0,1;");
        due("11: at the die", x.place(0, 0), ZERO + 45);
        due("11: between", x.place(0, 1), ZERO + 5 * 8 + 60);
        due("11: at the fingers", x.place(0, 9), ZERO + 540);
        x.shift(-9);
        due("11: less than 0", x.place(0, 0), ZERO - 36);
        due("11: less than 0", x.place(0, 2), ZERO - 28 + 120);
        x.shift(9);
        due("11: more than 60", x.place(1, 0), ZERO + 69 * 9);
        for (int y : new int[] {LEAST, -1, 10, 41, MOST}) due("11: no such row", x.place(0, y), BAD);
        for (int i : new int[] {LEAST, -1, 2, MOST}) due("11: no such wire", x.place(i, 0), BAD);
    }

    private static void heights(int i, int... want) {
        for (int y = 0; y < want.length; y++) due("12: height(" + i + ", " + y + ")", x.height(i, y), want[y]);
        due("12: no such row", x.height(i, want.length), BAD);
    }

    private static void height() {
        laid("s10;w0,1,0,0,7;w0,1,0,1,7;w0,1,0,2,7;w0,0,0,2,40;");
        heights(0, 10, 17, 17, 17, 17, 17, 17, 17, 17, 17, 0);
        heights(1, 10, 11, 12, 12, 12, 12, 10, 8, 6, 3, 0);
        heights(2, 10, 13, 17, 14, 12, 10, 8, 6, 4, 2, 0);
        heights(3, 0, 20, 40, 35, 30, 25, 20, 15, 10, 5, 0);
        laid("s9;w0,1,0,1,1;w0,2,0,2,3;");
        due("12: each part is cut", x.height(0, 4), 5);
        heights(1, 20, 21, 23, 19, 16, 13, 9, 6, 3, 0);
        laid("s40;w0,2,0,1,40;w0,2,0,2,40;");
        due("12: the widest span", x.height(0, 20), 10 + 40);
        due("12: the widest span", x.height(0, 40), 0);
        due("12: the widest span", x.height(1, 9), 56);
        due("12: the widest span", x.height(1, 10), 60);
        due("12: the widest span", x.height(1, 39), 2);
        for (int y : new int[] {LEAST, -1, 41, MOST}) due("12: no such row", x.height(0, y), BAD);
        for (int i : new int[] {LEAST, -1, 2, MOST}) due("12: no such wire", x.height(i, 0), BAD);
    }

    private static void pairNear() {
        laid("s8;g2;h6;w10,0,10,0,1;w12,0,12,0,1;w11,0,11,0,7;w11,1,11,0,1;");
        due("13: as far as GAP is not near", x.pair(0, 1, 0), NONE);
        due("13: as far as GAP is not near", x.pair(0, 1, 1), 0);
        due("13: as far as RISE is not near, but at the ends", x.pair(0, 2, 0), 0);
        due("13: as far as RISE is not near, but at the ends", x.pair(0, 2, 1), 2);
        due("13: on a higher tier near at the fingers only", x.pair(0, 3, 0), 8);
        due("13: on a higher tier near at the fingers only", x.pair(3, 0, 1), 1);
        x.set(2, 4, 6);
        due("13: nearer than RISE", x.pair(2, 0, 1), 9);
        x.limit(0, 3);
        due("13: nearer than GAP", x.pair(1, 0, 1), 9);
        laid("s8;g2;h3;w0,0,60,0,6;w60,0,0,0,6;w0,0,60,0,9;");
        due("13: where they cross", x.pair(0, 1, 0), 4);
        due("13: where they cross", x.pair(0, 1, 1), 1);
        due("13: one over the other", x.pair(1, 2, 0), NONE);
    }

    private static void pairCross() {
        laid("s8;w0,0,9,0,1;w9,0,0,0,1;w0,0,0,0,1;w20,0,20,0,1;w0,0,9,1,40;");
        due("13: cross", x.pair(0, 1, 2), 1);
        due("13: cross", x.pair(1, 0, 2), 1);
        due("13: from one pad", x.pair(0, 2, 2), 0);
        due("13: to one finger", x.pair(1, 2, 2), 0);
        due("13: side by side", x.pair(0, 3, 2), 0);
        due("13: one over the other", x.pair(0, 4, 2), 0);
    }

    private static void pairInTheWay() {
        for (int peak = 1; peak <= 9; peak++) {
            for (int apart = 0; apart <= 8; apart++) {
                laid("s8;t1;w10,0,10,0,1;w" + (10 + apart) + ",0," + (10 + apart) + ",0," + peak + ";");
                int higher = peak >= 1 && 2 * apart < 2 + peak ? 1 : 0;
                due("13: " + peak + " high, " + apart + " apart", x.pair(0, 1, 3), higher);
                due("13: the other way round", x.pair(1, 0, 3), 2 * apart < 3 ? 1 : 0);
            }
        }
        laid("s8;t2;w20,1,0,0,1;w20,0,30,0,10;");
        due("13: just as high as its end", x.pair(0, 1, 3), 1);
        x.limit(2, 1);
        due("13: as many rows away as TOOL", x.pair(0, 1, 3), 0);
        x.limit(2, 2);
        x.set(1, 4, 9);
        due("13: lower than its end", x.pair(0, 1, 3), 0);
        laid("s8;t1;w0,2,30,0,1;w60,0,30,0,1;");
        due("13: at the fingers", x.pair(0, 1, 3), 1);
        due("13: at the fingers", x.pair(1, 0, 3), 1);
        x.set(1, 2, 31);
        due("13: as far as TOOL, but h makes it wider", x.pair(0, 1, 3), 0);
        x.set(1, 0, 31);
        due("13: as far as TOOL, but h makes it wider", x.pair(0, 1, 3), 1);
        for (int i : new int[] {LEAST, -1, 2, MOST}) {
            due("13: no such wire", x.pair(i, 0, 3), BAD);
            due("13: no such wire", x.pair(0, i, 3), BAD);
        }
        for (int what : new int[] {LEAST, -1, 4, MOST}) due("13: no such question", x.pair(0, 1, what), BAD);
        for (int what = 0; what < 4; what++) due("13: one wire, twice", x.pair(1, 1, what), BAD);
    }

    /** 0 and 2 are tall and in the way of the low 1 between them, and in nobody's else. */
    private static final String TALL_BESIDE_LOW = "s8;t1;g1;w0,0,0,0,9;w4,0,4,0,1;w8,0,8,0,9;";

    private static void bondAndTake() {
        laid(TALL_BESIDE_LOW);
        due("16: all could be", x.ready(), 7);
        due("14: the first", x.bond(2), 1);
        due("14: it is already", x.bond(2), NO);
        due("16: not 1, nor 2 again", x.ready(), 1);
        due("14: one is in the way", x.bond(1), NO);
        due("14: the second", x.bond(0), 2);
        due("16: none", x.ready(), 0);
        due("14: a refused one is no change", x.count(9), 2);
        due("14: bonded", x.count(5), 2);
        due("15: not bonded", x.take(1), NO);
        due("15: one still", x.take(0), 1);
        due("15: not bonded", x.take(0), NO);
        due("15: none still", x.take(2), 0);
        due("15: each is a change", x.count(9), 4);
        due("14: the low one first", x.bond(1), 1);
        due("16: low ones are in nobody's way", x.ready(), 5);
        x.set(1, 4, 9);
        due("16: told by what is now", x.ready(), 0);
        due("14: what is bonded stays", x.wire(1, 5), 1);
        x.set(1, 4, 1);
        x.bond(0);
        x.shift(2);
        x.mend(0);
        due("14: what is bonded stays", x.count(5), 2);
        for (int i : new int[] {LEAST, -1, 3, 8, MOST}) {
            due("14: no such wire", x.bond(i), BAD);
            due("15: no such wire", x.take(i), BAD);
        }
    }

    private static void orderIs(int... want) {
        for (int k = 0; k < 8; k++) due("17: order(" + k + ")", x.order(k), k < want.length ? want[k] : NONE);
    }

    private static void orders() {
        laid(TALL_BESIDE_LOW);
        orderIs(1, 0, 2);
        due("18: two", x.orders(), 2);
        due("19: none", x.stuck(), 0);
        x.bond(0);
        orderIs(1, 0, 2);
        due("18: those bonded are not looked at", x.orders(), 2);
        for (int k : new int[] {LEAST, -1, 8, MOST}) due("17: no such place", x.order(k), BAD);
        laid("s8;");
        orderIs();
        due("18: one without wires", x.orders(), 1);
        due("19: none without wires", x.stuck(), 0);
        due("16: none without wires", x.ready(), 0);
        StringBuilder eight = new StringBuilder("s8;t1;");
        for (int i = 0; i < 8; i++) eight.append("w" + 4 * i + ",0," + 4 * i + ",0,1;");
        laid(eight.toString());
        orderIs(0, 1, 2, 3, 4, 5, 6, 7);
        due("18: of eight", x.orders(), 40320);
        laid("s8;t1;w0,0,0,0,9;w4,0,4,0,9;w8,0,8,0,1;w16,0,16,0,40;w60,0,60,0,1;");
        due("19: a ring, and who is in its way, not who it is in the way of", x.stuck(), 1 + 2 + 8);
        due("18: none", x.orders(), 0);
        for (int k = 0; k < 8; k++) due("17: there is no order", x.order(k), NO);
        due("17: bad ahead of no", x.order(8), BAD);
        x.set(1, 4, 6);
        due("19: the ring is open", x.stuck(), 0);
        due("17: the ring is open", x.order(0), 1);
    }

    private static void loopAndMend() {
        laid("s8;t1;g1;w0,0,0,0,9;w4,0,4,0,9;w40,0,40,1,5;");
        due("20: the least change, by its own shape", x.loop(0), 6);
        due("20: it changes nothing", x.wire(0, 4), 9);
        due("20: what it has", x.loop(2), 105);
        due("21: it has that loop", x.mend(2), NO);
        due("21: how far", x.mend(0), 3);
        due("21: mended", x.wire(0, 3), 0);
        due("21: mended", x.wire(0, 4), 6);
        due("21: one change", x.count(9), 1);
        due("21: so is the other one now", x.loop(1), 9);
        due("21: it has that loop", x.mend(1), NO);
        x.set(0, 3, 2);
        x.set(0, 4, 9);
        due("20: its own shape ahead of lower ones", x.loop(0), 206);
        laid("s8;t1;g2;h3;w0,0,60,0,6;w60,0,0,0,6;");
        due("20: another shape, if that is nearer", x.loop(0), 205);
        due("21: how far", x.mend(0), 1);
        due("21: shape and peak", x.wire(0, 3), 2);
        due("21: shape and peak", x.wire(0, 4), 5);
        due("21: it is one change", x.undo(), 0);
        due("21: it is one change", x.wire(0, 3), 0);
        due("21: it is one change", x.wire(0, 4), 6);
        laid("s8;t1;g2;h1;w0,0,60,2,9;w60,0,0,0,6;");
        due("20: of other shapes the lowest", x.loop(0), 9);
        laid("s8;t1;g2;h1;w0,0,60,0,12;w36,0,0,0,12;");
        due("20: of other shapes the lowest", x.loop(0), 112);
        laid("s8;t1;g2;h1;w0,0,60,0,12;w36,0,0,0,12;w60,0,0,0,12;w60,0,24,0,6;");
        due("20: of 11 and 13 the lowest peak", x.loop(0), 11);
        laid("s8;g9;w0,0,0,0,1;w1,0,1,0,1;");
        due("20: near at the fingers by any loop", x.loop(0), NONE);
        due("21: none", x.mend(0), NONE);
        due("21: nothing changed", x.count(9), 0);
        laid("s8;w0,0,0,2,40;");
        due("20: one wire alone", x.loop(0), 240);
        for (int i : new int[] {LEAST, -1, 1, 8, MOST}) {
            due("20: no such wire", x.loop(i), BAD);
            due("21: no such wire", x.mend(i), BAD);
        }
    }

    private static void sees() {
        laid("s8;w0,0,0,0,1;w5,0,0,0,1;w5,1,0,0,1;w7,2,0,0,1;w7,1,0,0,1;w60,0,0,0,1;w19,0,0,0,1;");
        due("22: a higher tier hides", x.sees(0, 0, 19), 1 + (1 << 19));
        due("22: a lower tier does not", x.sees(1, 0, 10), 1 << 5);
        due("22: the highest tier", x.sees(2, 7, 7), 1);
        due("22: bit 0 is the first number", x.sees(1, 4, 9), 2);
        due("22: the last number", x.sees(0, 41, 60), 1 << 19);
        due("22: nothing", x.sees(2, 0, 6), 0);
        x.shift(-9);
        due("22: with shift", x.sees(0, 45, 60), 1 << 6);
        due("22: less than 0 is not seen", x.sees(0, 0, 19), 1 << 10);
        int[][] bad = {{-1, 0, 1}, {3, 0, 1}, {0, -1, 1}, {0, 5, 4}, {0, 0, 20}, {0, 40, 60}, {0, 50, 61}, {0, 61, 61},
            {LEAST, 0, 1}, {MOST, 0, 1}, {0, LEAST, MOST}, {0, MOST, LEAST}, {0, LEAST, 1}, {0, 1, MOST}};
        for (int[] b : bad) {
            due("22: bad look", x.sees(b[0], b[1], b[2]), BAD);
            due("23: bad look", x.eye(0, b[0], b[1], b[2], 0), BAD);
        }
        due("23: nothing was told", x.forget(), 0);
    }

    private static void eyes() {
        laid("s8;w10,0,0,0,1;w13,0,0,0,1;w30,1,0,0,1;");
        due("25: all, if none was told", x.explains(0), 19);
        due("25: all, if none was told", x.explains(1), ZERO);
        due("23: one", x.eye(1, 0, 9, 9, 1), 1);
        due("25: 10 or 13 stands at 9", x.explains(0), 2);
        due("25: the nearest to 0", x.explains(1), ZERO - 1);
        due("23: told again", x.eye(1, 0, 14, 14, 1), 1);
        due("25: the later one counts", x.explains(1), ZERO + 1);
        due("25: the later one counts", x.explains(0), 2);
        due("23: two", x.eye(0, 1, 20, 39, 1 << 14), 2);
        due("25: both at once", x.explains(0), 1);
        due("25: both at once", x.explains(1), ZERO + 4);
        x.shift(-3);
        due("25: whatever shift is now", x.explains(1), ZERO + 4);
        x.eye(0, 1, 20, 39, 0);
        due("25: none", x.explains(0), 0);
        due("25: none", x.explains(1), NONE);
        due("24: two", x.forget(), 2);
        due("24: none any more", x.forget(), 0);
        due("24: all again", x.explains(0), 19);
        laid("s8;w10,0,0,0,1;w14,0,0,0,1;");
        x.eye(0, 0, 12, 12, 1);
        due("25: of two the one below 0", x.explains(1), ZERO - 2);
        due("25: of two the one below 0", x.explains(0), 2);
        x.eye(0, 0, 19, 19, 1);
        due("25: the last shift", x.explains(1), ZERO + 5);
        due("25: the last shift", x.explains(0), 2);
        x.eye(0, 0, 1, 1, 1);
        due("25: the first shift", x.explains(1), ZERO - 9);
        due("25: told by the wires as they are", x.set(0, 0, 50), 10);
        due("25: told by the wires as they are", x.explains(1), NONE);
        for (int e : new int[] {LEAST, -1, 2, MOST}) due("23: no such eye", x.eye(e, 0, 0, 1, 0), BAD);
        for (int bits : new int[] {LEAST, -1, 4, MOST}) due("23: bits beyond", x.eye(0, 0, 0, 1, bits), BAD);
        due("23: bits beyond", x.eye(0, 0, 0, 19, 1 << 20), BAD);
        due("23: all bits", x.eye(1, 0, 0, 19, (1 << 20) - 1), 2);
        for (int what : new int[] {LEAST, -1, 2, MOST}) due("25: no such question", x.explains(what), BAD);
        due("23: sights are no change", x.count(9), 1);
        due("24: undo leaves them", x.undo(), 0);
        due("24: undo leaves them", x.forget(), 2);
    }

    private static void count() {
        laid("s8;t1;g2;h3;w0,0,60,0,6;w60,0,0,0,6;w0,0,60,0,6;");
        int[] want = {3, 8, 2, 3, 1, 0, 3, 2, 2, 0, 48, ZERO, 3 * (8 + 60 + 12)};
        for (int what = 0; what < want.length; what++) due("26: count(" + what + ")", x.count(what), want[what]);
        x.bond(1);
        x.shift(-4);
        due("26: bonded", x.count(5), 1);
        due("26: changes", x.count(9), 2);
        due("26: shift", x.count(11), ZERO - 4);
        x.undo();
        due("26: changes", x.count(9), 1);
        laid(TALL_BESIDE_LOW);
        due("26: pairs (i, k) with k in the way of i", x.count(8), 2);
        x.set(1, 4, 9);
        due("26: both ways are two", x.count(8), 4);
        laid("s8;");
        for (int what : new int[] {0, 5, 6, 7, 8, 9, 12}) due("26: without wires", x.count(what), 0);
        for (int what : new int[] {LEAST, -1, 13, MOST}) due("26: no such question", x.count(what), BAD);
    }

    public static void main(String[] args) {
        newObject();
        write();
        wipe();
        fault();
        lay();
        set();
        limit();
        shift();
        undo();
        wire();
        place();
        height();
        pairNear();
        pairCross();
        pairInTheWay();
        bondAndTake();
        orders();
        loopAndMend();
        sees();
        eyes();
        count();
        check.end();
    }
}
