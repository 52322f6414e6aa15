import java.util.function.Supplier;

/**
 * The boundary cases of promises 14 to 21: bonding, orders, rings, loops. Most wires here run
 * straight, FLAT and on tier 0, with TOOL 1: k is in the way of i then if twice how far they are
 * apart is less than 2 and the PEAK of k together.
 */
final class BondedBoundaryTests extends Boundary {
    /** None is in the way of another one. */
    private static final String FREE_EIGHT = straight(1, 0, 8, 16, 24, 32, 40, 48, 56);
    /** Each is in the way of each. */
    private static final String ONE_PLACE_EIGHT = straight(9, 30, 30, 30, 30, 30, 30, 30, 30);
    /** Each is in the way of the one ahead of it, and of no other one. */
    private static final String CHAIN = "s8;t1;w0,0,0,0,1;w2,0,2,0,3;w5,0,5,0,5;w9,0,9,0,7;w14,0,14,0,9;"
            + "w20,0,20,0,11;w27,0,27,0,13;w35,0,35,0,15;";
    private static final String CHAIN_BACK = "s8;t1;w35,0,35,0,15;w27,0,27,0,13;w20,0,20,0,11;w14,0,14,0,9;"
            + "w9,0,9,0,7;w5,0,5,0,5;w2,0,2,0,3;w0,0,0,0,1;";
    /** 0 and 2 are tall and in the way of the low 1 between them. */
    private static final String LOW_BETWEEN = "s8;t1;g1;w0,0,0,0,9;w4,0,4,0,1;w8,0,8,0,9;";
    /** 0 is in the way of 1, 1 of 2, 2 of 0, and no other one of another one. */
    private static final String RING_OF_THREE = "s8;t1;w25,1,12,2,2;w18,0,1,0,6;w7,1,6,1,4;";

    private static String straight(int peak, int... pads) {
        StringBuilder text = new StringBuilder("s8;t1;");
        for (int pad : pads) text.append("w" + pad + ",0," + pad + ",0," + peak + ";");
        return text.toString();
    }

    // ---- 14: bond

    void promise14RefusesWiresThatAreNot() {
        for (int i : new int[] {LEAST, -1, 3, 7, 8, 31, 32, MOST}) {
            changesNothing("no such wire", Boundary::busy, t -> t.bond(i), BAD);
        }
        changesNothing("without wires", laying("s8;"), t -> t.bond(0), BAD);
        changesNothing("no ninth", laying(FREE_EIGHT), t -> t.bond(8), BAD);
    }

    void promise14FromNoneToAllEight() {
        laid(FREE_EIGHT);
        for (int i = 0; i < 8; i++) {
            due("how many", x.bond(i), i + 1);
            due("how many", x.count(5), i + 1);
            due("bonded", x.wire(i, 5), 1);
        }
        due("all have been", x.bond(7), NO);
        due("six can be undone", x.count(9), 6);
        for (int more = 5; more >= 0; more--) x.undo();
        due("two stay", x.count(5), 2);
    }

    void promise14OneThatIsBondedAlreadyIsRefused() {
        laid(LOW_BETWEEN);
        changesNothing("already", () -> bonded(laying(LOW_BETWEEN), 1), t -> t.bond(1), NO);
        changesNothing("already, the last of eight", () -> bonded(laying(FREE_EIGHT), 7), t -> t.bond(7), NO);
        changesNothing("already, with nobody in the way", () -> bonded(laying("s8;w0,0,0,0,1;"), 0), t -> t.bond(0), NO);
    }

    private static Trial bonded(Supplier<Trial> made, int... wires) {
        Trial t = made.get();
        for (int i : wires) if (t.bond(i) < 0) throw new IllegalStateException("can't be bonded: " + t);
        return t;
    }

    void promise14OneWithABondedOneInTheWayIsRefused() {
        changesNothing("0 is in the way", () -> bonded(laying(LOW_BETWEEN), 0), t -> t.bond(1), NO);
        changesNothing("2 is in the way", () -> bonded(laying(LOW_BETWEEN), 2), t -> t.bond(1), NO);
        changesNothing("both are", () -> bonded(laying(LOW_BETWEEN), 0, 2), t -> t.bond(1), NO);
        for (int b = 1; b < 8; b++) {
            int blocker = b;
            changesNothing("in a chain", () -> bonded(laying(CHAIN), blocker), t -> t.bond(blocker - 1), NO);
        }
    }

    void promise14OnlyBondedOnesMatter() {
        laid(ONE_PLACE_EIGHT);
        for (int i = 0; i < 8; i++) {
            due("alone", x.bond(i), 1);
            due("taken off", x.take(i), 0);
        }
    }

    void promise14WhomItIsInTheWayOfDoesNotMatter() {
        laid(LOW_BETWEEN);
        due("the low one", x.bond(1), 1);
        due("a tall one beside it", x.bond(0), 2);
        due("the other tall one", x.bond(2), 3);
        laid(CHAIN);
        for (int i = 0; i < 8; i++) due("in order", x.bond(i), i + 1);
    }

    void promise14WhatIsBondedStaysBonded() {
        laid("s8;t1;g1;w0,0,0,0,1;w4,0,4,0,1;");
        x.bond(0);
        x.bond(1);
        for (int what = 0; what < 5; what++) due("told anew", x.set(0, what, 2) >= 0 ? 1 : 0, 1);
        x.set(0, 4, 40);
        for (int which = 0; which < 3; which++) x.limit(which, 9);
        x.shift(-9);
        due("in each other's way now", x.count(8), 2);
        due("bonded", x.count(5), 2);
        due("bonded", x.wire(0, 5), 1);
        due("bonded", x.wire(1, 5), 1);
        laid("s8;t1;g1;w0,0,0,0,9;w4,0,4,0,9;");
        x.bond(0);
        due("mended", x.mend(0), 3);
        due("bonded", x.wire(0, 5), 1);
    }

    // ---- 15: take

    void promise15RefusesWiresThatAreNot() {
        for (int i : new int[] {LEAST, -1, 3, 7, 8, 31, 32, MOST}) {
            changesNothing("no such wire", Boundary::busy, t -> t.take(i), BAD);
        }
        changesNothing("without wires", laying("s8;"), t -> t.take(0), BAD);
        changesNothing("no ninth", laying(FREE_EIGHT), t -> t.take(8), BAD);
    }

    void promise15FromAllEightToNone() {
        laid(FREE_EIGHT);
        for (int i = 0; i < 8; i++) x.bond(i);
        for (int i = 7; i >= 0; i--) {
            due("how many still", x.take(i), i);
            due("how many still", x.count(5), i);
            due("taken off", x.wire(i, 5), 0);
        }
        due("none is left", x.take(0), NO);
    }

    void promise15OneThatIsNotBondedIsRefused() {
        changesNothing("none is", laying(LOW_BETWEEN), t -> t.take(0), NO);
        changesNothing("another one is", () -> bonded(laying(LOW_BETWEEN), 0), t -> t.take(1), NO);
        changesNothing("the first of eight is", () -> bonded(laying(FREE_EIGHT), 0), t -> t.take(7), NO);
        changesNothing("it was", () -> {
            Trial t = bonded(laying(LOW_BETWEEN), 0);
            t.take(0);
            return t;
        }, t -> t.take(0), NO);
    }

    void promise15IsTakenOffAnyTime() {
        laid(ONE_PLACE_EIGHT.replace(",9;", ",1;"));
        x.set(0, 0, 0);
        x.set(0, 2, 0);
        x.bond(0);
        x.bond(1);
        x.set(0, 0, 30);
        x.set(0, 2, 30);
        due("each is in the way of the other one now", x.pair(0, 1, 3) + x.pair(1, 0, 3), 2);
        due("still", x.take(0), 1);
        due("it can't be put back", x.bond(0), NO);
        due("still", x.take(1), 0);
    }

    // ---- 16: ready

    void promise16OfNoWireToEight() {
        laid("s8;");
        due("none", x.ready(), 0);
        for (int wires = 1; wires <= 8; wires++) {
            laid("s8;" + "w30,0,30,0,9;".repeat(wires));
            due("all, while none is bonded", x.ready(), (1 << wires) - 1);
        }
    }

    void promise16BondedOnesAreNot() {
        laid(FREE_EIGHT);
        for (int i = 0; i < 8; i++) {
            x.bond(i);
            due("those that are left", x.ready(), 255 & -(2 << i));
        }
        due("none", x.ready(), 0);
    }

    void promise16OnesWithABondedOneInTheWayAreNot() {
        laid(CHAIN);
        due("all", x.ready(), 255);
        x.bond(7);
        due("neither 7 nor 6", x.ready(), 63);
        x.bond(1);
        due("neither 1 nor 0", x.ready(), 60);
        x.take(7);
        due("7 and 6 again", x.ready(), 252);
        laid(ONE_PLACE_EIGHT);
        x.bond(3);
        due("none", x.ready(), 0);
        x.undo();
        due("all", x.ready(), 255);
    }

    void promise16AsThingsAreThen() {
        laid(LOW_BETWEEN);
        x.bond(0);
        due("not 1", x.ready(), 4);
        x.set(0, 4, 6);
        due("1, too", x.ready(), 6);
        x.limit(2, 2);
        due("not 1", x.ready(), 4);
        x.undo();
        due("1, too", x.ready(), 6);
    }

    // ---- 17: order

    private void orderIs(int... want) {
        for (int k = 0; k <= 7; k++) due("order(" + k + ")", x.order(k), k < want.length ? want[k] : NONE);
    }

    void promise17PlacesAre0To7() {
        for (int k : new int[] {LEAST, -1, 8, 9, MOST}) {
            changesNothing("with three wires", Boundary::busy, t -> t.order(k), BAD);
            changesNothing("with eight", laying(FREE_EIGHT), t -> t.order(k), BAD);
            changesNothing("without wires", laying("s8;"), t -> t.order(k), BAD);
            changesNothing("bad ahead of no", laying(ONE_PLACE_EIGHT), t -> t.order(k), BAD);
        }
    }

    void promise17NotSoManyWiresIsNone() {
        laid("s8;");
        orderIs();
        laid("s8;w0,0,0,0,1;");
        orderIs(0);
        laid(straight(1, 0, 8, 16, 24, 32, 40, 48));
        orderIs(0, 1, 2, 3, 4, 5, 6);
        laid(FREE_EIGHT);
        orderIs(0, 1, 2, 3, 4, 5, 6, 7);
        changesNothing("none", laying(LOW_BETWEEN), t -> t.order(3), NONE);
    }

    void promise17NoOrderComesAheadOfNotSoMany() {
        for (int k = 0; k <= 7; k++) {
            int place = k;
            changesNothing("a pair", laying("s8;t1;w0,0,0,0,9;w4,0,4,0,9;"), t -> t.order(place), NO);
            changesNothing("eight", laying(ONE_PLACE_EIGHT), t -> t.order(place), NO);
        }
        laid(RING_OF_THREE);
        for (int k = 0; k <= 7; k++) due("a ring", x.order(k), NO);
    }

    void promise17TheLowestFirstOfSeveral() {
        laid(CHAIN);
        orderIs(0, 1, 2, 3, 4, 5, 6, 7);
        laid(CHAIN_BACK);
        orderIs(7, 6, 5, 4, 3, 2, 1, 0);
        laid(LOW_BETWEEN);
        orderIs(1, 0, 2);
        laid("s8;t1;w0,0,0,0,9;w8,0,8,0,9;w30,0,30,0,1;w4,0,4,0,1;w40,0,40,0,1;");
        orderIs(2, 3, 0, 1, 4);
    }

    void promise17BondedOnesAreNotLookedAt() {
        laid(LOW_BETWEEN);
        x.bond(2);
        x.bond(0);
        orderIs(1, 0, 2);
        due("two", x.orders(), 2);
        due("none stuck", x.stuck(), 0);
        laid(ONE_PLACE_EIGHT);
        x.bond(0);
        due("none", x.order(0), NO);
        due("all stuck", x.stuck(), 255);
    }

    // ---- 18: orders

    void promise18FromNoWireToEight() {
        laid("s8;");
        due("1 without wires", x.orders(), 1);
        int all = 1;
        for (int wires = 1; wires <= 8; wires++) {
            all *= wires;
            StringBuilder text = new StringBuilder("s8;t1;");
            for (int i = 0; i < wires; i++) text.append("w" + 8 * i + ",0," + 8 * i + ",0,1;");
            laid(text.toString());
            due("all of " + wires, x.orders(), all);
        }
    }

    void promise18OneAndNone() {
        laid(CHAIN);
        due("a chain", x.orders(), 1);
        laid(CHAIN_BACK);
        due("a chain", x.orders(), 1);
        laid(ONE_PLACE_EIGHT);
        due("all in one place", x.orders(), 0);
        laid(RING_OF_THREE);
        due("a ring", x.orders(), 0);
        laid(RING_OF_THREE + "w60,0,60,0,1;");
        due("a ring and another one", x.orders(), 0);
    }

    void promise18SomeOfAll() {
        laid(LOW_BETWEEN);
        due("1 ahead of 0 and 2", x.orders(), 2);
        laid(LOW_BETWEEN + "w40,0,40,0,1;");
        due("and another one anywhere", x.orders(), 8);
        laid("s8;t1;w0,0,0,0,9;w4,0,4,0,1;w20,0,20,0,1;w24,0,24,0,9;");
        due("two pairs", x.orders(), 6);
    }

    // ---- 19: stuck

    void promise19NoneWhereThereIsAnOrder() {
        for (String text : new String[] {"s8;", "s8;w0,0,0,0,1;", CHAIN, CHAIN_BACK, FREE_EIGHT, LOW_BETWEEN}) {
            laid(text);
            due("none", x.stuck(), 0);
        }
    }

    void promise19AllEight() {
        laid(ONE_PLACE_EIGHT);
        due("all", x.stuck(), 255);
    }

    void promise19ARingOfTwoAndOfThree() {
        laid("s8;t1;w0,0,0,0,9;w4,0,4,0,9;");
        due("two", x.stuck(), 3);
        laid(RING_OF_THREE);
        for (int i = 0; i < 3; i++) {
            for (int k = 0; k < 3; k++) if (i != k) due("k of i", x.pair(i, k, 3), (k + 1) % 3 == i ? 1 : 0);
        }
        due("three", x.stuck(), 7);
        x.set(2, 0, 60);
        x.set(2, 2, 60);
        due("open", x.stuck(), 0);
    }

    /** 0 and 1 are a ring; they are in the way of the low 2, the tall 3 is in the way of 1. */
    void promise19WhoIsInTheWayOfARingStaysWhoHasItInTheWayDoesNot() {
        laid("s8;t1;w0,0,0,0,9;w4,0,4,0,9;w8,0,8,0,1;w16,0,16,0,40;w60,0,60,0,1;");
        due("0 and 1 and 3", x.stuck(), 11);
        x.set(3, 4, 1);
        due("0 and 1", x.stuck(), 3);
        laid("s8;t1;w60,0,60,0,1;w0,0,0,0,1;w0,0,0,0,1;w30,0,30,0,9;w34,0,34,0,9;w48,0,48,0,1;w50,0,50,0,3;");
        due("two rings", x.stuck(), 2 + 4 + 8 + 16);
    }

    // ---- 20: loop

    void promise20RefusesWiresThatAreNot() {
        for (int i : new int[] {LEAST, -1, 3, 7, 8, MOST}) {
            changesNothing("no such wire", Boundary::busy, t -> t.loop(i), BAD);
        }
        changesNothing("without wires", laying("s8;"), t -> t.loop(0), BAD);
        changesNothing("no ninth", laying(FREE_EIGHT), t -> t.loop(8), BAD);
    }

    void promise20WhatItHasIsALoopToo() {
        for (int shape = 0; shape <= 2; shape++) {
            for (int peak : new int[] {1, 20, 40}) {
                laid("s8;w0,0,0," + shape + "," + peak + ";");
                due("one wire alone", x.loop(0), 100 * shape + peak);
            }
        }
        laid(FREE_EIGHT);
        due("the last of eight", x.loop(7), 1);
    }

    /**
     * Wire 0, with its shape and peak, and others that all run over it at row 20 alone, each FLAT
     * and so high there; with RISE 1 they are NEAR only if just as high. A FLAT or ROUND one is as
     * high there as its PEAK, a STEEP one two thirds of it, cut. None is in the way of another one.
     */
    private static String over(String shapeAndPeak, int... heights) {
        StringBuilder text = new StringBuilder("s40;g1;h1;t1;w0,0,60," + shapeAndPeak + ";");
        for (int height : heights) text.append("w60,0,0,0," + height + ";");
        return text.toString();
    }

    private void loopIs(String text, int want) {
        laid(text);
        due("loop of " + text, x.loop(0), want);
    }

    void promise20TheNearestPeakFirst() {
        loopIs(over("0,20", 20), 220);
        loopIs(over("0,20", 20, 13), 19);
        loopIs(over("0,20", 20, 13, 19, 21, 12, 14), 18);
    }

    void promise20ThenItsOwnShapeAheadOfLowerPeaksAndShapes() {
        loopIs(over("0,20", 20, 13, 19), 21);
        loopIs(over("1,20", 20, 13), 119);
        loopIs(over("1,20", 20, 13, 19), 121);
        loopIs(over("2,20", 13, 20), 219);
        loopIs(over("2,20", 13, 20, 12), 221);
        loopIs(over("0,20", 20, 13, 19, 21, 12, 14, 18), 22);
    }

    void promise20ThenTheLowestShape() {
        loopIs(over("2,20", 13), 20);
        loopIs(over("2,20", 13, 20, 12, 14, 19), 21);
        // At row 10 a ROUND one is 15 high; at row 30 a FLAT one 20, a ROUND one 15, a STEEP one 6.
        loopIs("s40;g1;h1;t1;w0,0,60,1,20;w20,0,0,0,15;", 20);
        loopIs("s40;g1;h1;t1;w0,0,60,0,20;w60,0,40,0,20;", 120);
    }

    void promise20ThenTheLowestPeak() {
        loopIs(over("0,20", 20, 13, 19, 21), 219);
        loopIs(over("0,20", 20, 13, 19, 21, 12), 221);
        loopIs(over("2,20", 13, 20, 12, 14), 19);
    }

    void promise20PeaksAre1To40() {
        loopIs("s40;g1;h1;t1;w0,0,60,0,1;w60,0,0,0,1;w20,0,0,0,1;", 2);
        loopIs(over("0,40", 40, 26, 39), 38);
        loopIs(over("0,1", 1), 201);
    }

    void promise20FromOneEndOfAllPeaksToTheOther() {
        loopIs("s40;g1;h39;t1;w0,0,60,0,1;w60,0,0,0,1;", 40);
        loopIs("s40;g1;h40;t1;w0,0,60,0,1;w60,0,0,0,1;", NONE);
        loopIs("s40;g1;h39;t1;w0,0,60,0,40;w60,0,0,0,40;", 202);
        loopIs("s40;g1;h39;t1;w0,0,60,0,40;w60,0,0,0,40;w20,0,0,0,40;", 1);
        loopIs("s40;g1;h40;t1;w0,0,60,0,40;w60,0,0,0,40;", 201);
        loopIs("s40;g1;h40;t1;w0,0,60,0,40;w60,0,0,0,40;w20,0,0,0,40;", NONE);
    }

    void promise20NearAtAnEndIsMendedByNone() {
        for (String text : new String[] {"s8;g1;w0,0,0,0,1;w0,0,60,0,1;", "s8;g1;w0,0,60,0,1;w30,0,60,0,1;",
            "s8;g9;t1;w0,0,0,0,1;w8,0,60,0,1;"}) {
            changesNothing("none", laying(text), t -> t.loop(0), NONE);
        }
        laid("s8;g9;t1;w0,0,0,0,1;w9,0,60,0,1;");
        due("as far as GAP", x.loop(0), 1);
    }

    /** Eight apart at the fingers, which is out of the tool's way, but less than GAP. */
    void promise20NearAtTheFingersAloneIsMendedByNone() {
        loopIs("s8;g9;t1;w0,0,0,0,1;w60,0,8,0,1;", NONE);
        loopIs("s8;g9;t1;w0,0,0,0,1;w60,0,9,0,1;", 1);
        loopIs("s40;g9;t1;w0,0,0,0,1;w60,0,8,0,1;", NONE);
        loopIs("s40;g9;t1;w0,0,0,0,1;w60,0,9,0,1;", 1);
    }

    /** With GAP 4 they are close at rows 19, 20, 21; there a STEEP one with PEAK 30 is 21, 20, 19 high. */
    void promise20NearAtOneOfSeveralRowsIsNotMended() {
        for (int height = 19; height <= 21; height++) {
            loopIs("s40;g4;h1;t1;w0,0,60,2,30;w60,0,0,0," + height + ";", 30);
        }
        loopIs("s40;g4;h1;t1;w0,0,60,2,30;w60,0,0,0,18;", 230);
        loopIs("s40;g4;h1;t1;w0,0,60,2,30;w60,0,0,0,22;", 230);
    }

    /** The wire to be mended stands at each place among the others. */
    void promise20OfEachOfEightWires() {
        int[] heights = {20, 13, 19, 21, 12, 14, 18};
        for (int at = 0; at <= 7; at++) {
            StringBuilder text = new StringBuilder("s40;g1;h1;t1;");
            for (int k = 0; k < 7; k++) {
                if (k == at) text.append("w0,0,60,0,20;");
                text.append("w60,0,0,0," + heights[k] + ";");
            }
            laid(at == 7 ? text + "w0,0,60,0,20;" : text.toString());
            due("loop(" + at + ")", x.loop(at), 22);
            due("mend(" + at + ")", x.mend(at), 2);
            due("its peak", x.wire(at, 4), 22);
        }
    }

    void promise20MutuallyInTheWay() {
        loopIs("s8;g1;t2;w0,0,0,0,1;w1,0,1,0,1;", NONE);
        loopIs("s8;g1;t1;w0,0,0,0,1;w1,0,1,0,1;", 101);
        loopIs("s8;g1;t1;w0,0,0,0,9;w4,0,4,0,9;", 6);
    }

    void promise20OneWayInTheWayDoesNotMatter() {
        laid(LOW_BETWEEN);
        due("a tall one", x.loop(0), 9);
        due("the low one", x.loop(1), 1);
    }

    void promise20PairsWithoutItDoNotMatter() {
        laid("s8;t1;w0,0,0,0,1;w30,0,30,0,9;w30,0,30,0,9;w31,0,31,0,9;");
        due("its own", x.loop(0), 1);
        due("another one", x.loop(1), NONE);
    }

    void promise20ChangesNothing() {
        changesNothing("another loop", laying("s8;t1;g1;w0,0,0,0,9;w4,0,4,0,9;"), t -> t.loop(0), 6);
        changesNothing("its own", laying(LOW_BETWEEN), t -> t.loop(2), 9);
    }

    // ---- 21: mend

    void promise21RefusesWiresThatAreNot() {
        for (int i : new int[] {LEAST, -1, 3, 7, 8, MOST}) {
            changesNothing("no such wire", Boundary::busy, t -> t.mend(i), BAD);
        }
        changesNothing("without wires", laying("s8;"), t -> t.mend(0), BAD);
        changesNothing("no ninth", laying(FREE_EIGHT), t -> t.mend(8), BAD);
    }

    void promise21ItHasThatLoop() {
        changesNothing("alone", laying("s8;w0,0,0,2,40;"), t -> t.mend(0), NO);
        changesNothing("the last of eight", laying(FREE_EIGHT), t -> t.mend(7), NO);
        changesNothing("mended ahead", () -> {
            Trial t = laying("s8;t1;g1;w0,0,0,0,9;w4,0,4,0,9;").get();
            t.mend(0);
            return t;
        }, t -> t.mend(0), NO);
    }

    void promise21NoLoopMendsIt() {
        changesNothing("near", laying("s8;g9;w0,0,0,0,1;w1,0,1,0,1;"), t -> t.mend(0), NONE);
        changesNothing("mutually in the way", laying("s8;g1;t2;w0,0,0,0,1;w1,0,1,0,1;"), t -> t.mend(1), NONE);
        changesNothing("too high", laying("s40;g1;h40;t1;w0,0,60,0,1;w60,0,0,0,1;"), t -> t.mend(0), NONE);
    }

    private void mended(String text, int far, int shape, int peak) {
        laid(text);
        int wasShape = x.wire(0, 3);
        int wasPeak = x.wire(0, 4);
        due("how far", x.mend(0), far);
        due("its shape", x.wire(0, 3), shape);
        due("its peak", x.wire(0, 4), peak);
        due("one change", x.count(9), 1);
        due("it has that loop", x.loop(0), 100 * shape + peak);
        due("no more to mend", x.mend(0), NO);
        due("undone", x.undo(), 0);
        due("its shape", x.wire(0, 3), wasShape);
        due("its peak", x.wire(0, 4), wasPeak);
    }

    void promise21HowFarItsPeakIsFromWhatItWas() {
        mended(over("0,20", 20), 0, 2, 20);
        mended(over("0,20", 20, 13), 1, 0, 19);
        mended(over("0,20", 20, 13, 19), 1, 0, 21);
        mended(over("0,20", 20, 13, 19, 21), 1, 2, 19);
        mended("s40;g1;h39;t1;w0,0,60,0,1;w60,0,0,0,1;", 39, 0, 40);
        mended("s40;g1;h39;t1;w0,0,60,0,40;w60,0,0,0,40;w20,0,0,0,40;", 39, 0, 1);
        mended("s8;g1;t1;w0,0,0,0,1;w1,0,1,0,1;", 0, 1, 1);
    }

    void promise21OtherWiresStay() {
        laid(over("0,20", 20, 13));
        x.mend(0);
        due("its peak", x.wire(0, 4), 19);
        due("the next one", x.wire(1, 4), 20);
        due("the next one", x.wire(2, 4), 13);
        due("its pad", x.wire(0, 0), 0);
        due("its tier", x.wire(0, 1), 0);
        due("its finger", x.wire(0, 2), 60);
        due("none near it", x.pair(0, 1, 1) + x.pair(0, 2, 1), 0);
    }

    void promise21IsLookedForAsThingsAreThen() {
        laid("s8;t1;g1;w0,0,0,0,9;w4,0,4,0,9;");
        due("6", x.loop(0), 6);
        x.limit(2, 2);
        due("a wider tool", x.loop(0), 4);
        x.set(1, 4, 1);
        due("a low other one", x.loop(0), 9);
        x.undo();
        x.undo();
        due("6", x.loop(0), 6);
        x.shift(9);
        due("both run aside", x.loop(0), 208);
    }

    public static void main(String[] args) {
        new BondedBoundaryTests().runAll(14, 21);
    }
}
