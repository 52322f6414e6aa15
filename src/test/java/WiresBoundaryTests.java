/** The boundary cases of promises 10 to 13: numbers, places and heights of a wire, two wires together. */
final class WiresBoundaryTests extends Boundary {
    private static final String EIGHT = "s8;" + "w30,1,30,1,20;".repeat(8);

    // ---- 10: wire

    void promise10AnswersNineQuestions() {
        laid("s8;w3,1,7,2,3;");
        int[] want = {3, 1, 7, 2, 3, 0, 8 + 4 + 16, 13, 2};
        for (int what = 0; what < want.length; what++) due("wire(0, " + what + ")", x.wire(0, what), want[what]);
        for (int what : new int[] {LEAST, -1, 9, 10, MOST}) {
            changesNothing("no such question", Boundary::busy, t -> t.wire(0, what), BAD);
        }
    }

    void promise10RefusesWiresThatAreNot() {
        for (int i : new int[] {LEAST, -1, 3, 8, MOST}) {
            changesNothing("no such wire", Boundary::busy, t -> t.wire(i, 0), BAD);
        }
        for (int what = 0; what <= 8; what++) {
            laid("s8;");
            due("without wires", x.wire(0, what), BAD);
            laid(EIGHT);
            due("the last of eight", x.wire(7, what), x.wire(0, what));
            due("no ninth", x.wire(8, what), BAD);
            due("none ahead of the first", x.wire(-1, what), BAD);
        }
    }

    void promise10BondedIs1OrElse0() {
        laid("s8;t1;w0,0,0,0,1;w30,0,30,0,1;");
        due("at first", x.wire(1, 5), 0);
        x.bond(1);
        due("bonded", x.wire(1, 5), 1);
        due("the other one", x.wire(0, 5), 0);
        x.take(1);
        due("taken off", x.wire(1, 5), 0);
        x.undo();
        due("undone", x.wire(1, 5), 1);
    }

    /** Length, greatest height and its row of a wire from pad 30 to finger 30. */
    private void longAndHigh(String spanAndLoop, int length, int greatest, int row) {
        String[] parts = spanAndLoop.split(" ");
        laid("s" + parts[0] + ";w30," + parts[1] + ",30," + parts[2] + "," + parts[3] + ";");
        due("long " + spanAndLoop, x.wire(0, 6), length);
        due("greatest height " + spanAndLoop, x.wire(0, 7), greatest);
        due("its lowest row " + spanAndLoop, x.wire(0, 8), row);
    }

    void promise10LongAndHighAtTheEndsOfAllRanges() {
        longAndHigh("8 0 0 1", 8 + 2, 1, 1);
        longAndHigh("8 2 0 40", 8 + 100, 60, 1);
        longAndHigh("8 0 1 1", 8 + 2, 1, 4);
        longAndHigh("8 2 1 40", 8 + 80, 50, 4);
        longAndHigh("8 0 2 1", 8 + 2, 1, 2);
        longAndHigh("8 2 2 40", 8 + 100, 60, 2);
        longAndHigh("40 0 0 1", 40 + 2, 1, 1);
        longAndHigh("40 2 0 40", 40 + 100, 60, 1);
        longAndHigh("40 0 1 1", 40 + 2, 1, 20);
        longAndHigh("40 2 1 40", 40 + 82, 50, 16);
        longAndHigh("40 0 2 1", 40 + 2, 1, 10);
        longAndHigh("40 2 2 40", 40 + 100, 60, 10);
    }

    void promise10TheLowestOfSeveralRowsThatAreAsHigh() {
        longAndHigh("9 0 1 40", 9 + 78, 39, 4);
        longAndHigh("11 2 1 40", 11 + 78, 49, 4);
        longAndHigh("9 1 0 1", 9 + 12, 11, 1);
    }

    void promise10HighestAtTheDieIsRow0() {
        longAndHigh("8 1 1 1", 8 + 10, 10, 0);
        longAndHigh("12 2 1 1", 12 + 20, 20, 0);
    }

    void promise10HeightsAllCutTo0() {
        longAndHigh("9 0 1 1", 9, 0, 0);
        longAndHigh("39 0 1 1", 39, 0, 0);
    }

    void promise10LongGoesByHowFarAsideTheWireRuns() {
        for (int[] way : new int[][] {{0, 0, 0}, {0, 1, 1}, {1, 0, 1}, {0, 60, 60}, {60, 0, 60}}) {
            laid("s8;w" + way[0] + ",0," + way[1] + ",0,1;");
            due("from " + way[0] + " to " + way[1], x.wire(0, 6), 10 + way[2]);
        }
        x.shift(9);
        due("69 to 0", x.wire(0, 6), 10 + 69);
        x.shift(-9);
        due("51 to 0", x.wire(0, 6), 10 + 51);
        x.set(0, 0, 0);
        due("-9 to 0", x.wire(0, 6), 10 + 9);
        x.set(0, 2, 60);
        due("-9 to 60", x.wire(0, 6), 10 + 69);
    }

    // ---- 11: place

    void promise11RowsAre0ToSpan() {
        for (int span : new int[] {8, 9, 39, 40}) {
            laid("s" + span + ";w10,0,20,0,1;");
            due("row 0", x.place(0, 0), ZERO + 10 * span);
            due("row 1", x.place(0, 1), ZERO + 10 * (span - 1) + 20);
            due("the last but one", x.place(0, span - 1), ZERO + 10 + 20 * (span - 1));
            due("the last", x.place(0, span), ZERO + 20 * span);
            for (int y : new int[] {LEAST, -1, span + 1, 41, MOST}) due("no such row", x.place(0, y), BAD);
        }
        for (int y : new int[] {LEAST, -1, 9, MOST}) {
            changesNothing("no such row", Boundary::busy, t -> t.place(0, y), BAD);
        }
    }

    void promise11RefusesWiresThatAreNot() {
        for (int i : new int[] {LEAST, -1, 3, 8, MOST}) {
            changesNothing("no such wire", Boundary::busy, t -> t.place(i, 0), BAD);
        }
        laid("s8;");
        due("without wires", x.place(0, 0), BAD);
        laid(EIGHT);
        due("the last of eight", x.place(7, 0), ZERO + 240);
        due("no ninth", x.place(8, 0), BAD);
    }

    void promise11AtTheEndsOfAllRanges() {
        laid("s40;w0,0,0,0,1;w60,0,60,0,1;");
        for (int y : new int[] {0, 20, 40}) {
            due("all 0", x.place(0, y), ZERO);
            due("all 60", x.place(1, y), ZERO + 2400);
        }
        x.shift(-9);
        due("the least", x.place(0, 0), ZERO - 360);
        due("below 0", x.place(0, 39), ZERO - 9);
        due("a finger does not move", x.place(0, 40), ZERO);
        x.shift(9);
        due("the most", x.place(1, 0), ZERO + 2760);
        due("above 60", x.place(1, 39), ZERO + 2409);
        due("a finger does not move", x.place(1, 40), ZERO + 2400);
    }

    // ---- 12: height

    void promise12RowsAre0ToSpan() {
        for (int span : new int[] {8, 9, 39, 40}) {
            laid("s" + span + ";w10,2,20,0,5;");
            due("row 0", x.height(0, 0), 20);
            due("row 1", x.height(0, 1), 25);
            due("the last but one", x.height(0, span - 1), 25);
            due("the last", x.height(0, span), 0);
            for (int y : new int[] {LEAST, -1, span + 1, 41, MOST}) due("no such row", x.height(0, y), BAD);
        }
        for (int y : new int[] {LEAST, -1, 9, MOST}) {
            changesNothing("no such row", Boundary::busy, t -> t.height(0, y), BAD);
        }
    }

    void promise12RefusesWiresThatAreNot() {
        for (int i : new int[] {LEAST, -1, 3, 8, MOST}) {
            changesNothing("no such wire", Boundary::busy, t -> t.height(i, 0), BAD);
        }
        laid("s8;");
        due("without wires", x.height(0, 0), BAD);
        laid(EIGHT);
        due("the last of eight", x.height(7, 0), 10);
        due("no ninth", x.height(8, 0), BAD);
    }

    /** Heights from row 0 on of a wire with this tier, shape and peak. */
    private void heights(int span, int tier, int shape, int peak, int... want) {
        laid("s" + span + ";w0," + tier + ",0," + shape + "," + peak + ";");
        for (int y = 0; y < want.length; y++) due("row " + y, x.height(0, y), want[y]);
        due("rows told", want.length, span + 1);
    }

    void promise12Is0AtTheFingersAndBaseAtTheDie() {
        for (int tier = 0; tier <= 2; tier++) {
            for (int shape = 0; shape <= 2; shape++) {
                for (int peak : new int[] {1, 40}) {
                    laid("s8;w0," + tier + ",60," + shape + "," + peak + ";");
                    due("at the die", x.height(0, 0), 10 * tier);
                    due("at the fingers", x.height(0, 8), 0);
                }
            }
        }
    }

    void promise12Flat() {
        heights(8, 0, 0, 1, 0, 1, 1, 1, 1, 1, 1, 1, 0);
        heights(8, 2, 0, 40, 20, 60, 60, 60, 60, 60, 60, 60, 0);
        heights(9, 1, 0, 7, 10, 17, 17, 17, 17, 17, 17, 17, 17, 0);
    }

    void promise12RoundIsCutInEachPart() {
        heights(8, 0, 1, 1, 0, 0, 0, 0, 1, 0, 0, 0, 0);
        heights(8, 1, 1, 1, 10, 8, 7, 6, 6, 3, 2, 1, 0);
        heights(8, 2, 1, 40, 20, 34, 45, 49, 50, 44, 35, 19, 0);
        heights(9, 0, 1, 1, 0, 0, 0, 0, 0, 0, 0, 0, 0, 0);
        heights(9, 2, 1, 40, 20, 32, 42, 48, 50, 47, 41, 31, 17, 0);
        heights(12, 1, 1, 1, 10, 9, 8, 7, 6, 5, 6, 4, 3, 2, 1, 0, 0);
    }

    void promise12SteepTurnsAtTheRowThatIsAQuarterCut() {
        heights(8, 0, 2, 1, 0, 0, 1, 0, 0, 0, 0, 0, 0);
        heights(8, 2, 2, 40, 20, 40, 60, 50, 40, 30, 20, 10, 0);
        heights(9, 1, 2, 3, 10, 11, 13, 11, 9, 7, 5, 3, 1, 0);
        heights(11, 2, 2, 40, 20, 40, 60, 53, 46, 40, 33, 26, 20, 13, 6, 0);
        heights(12, 1, 2, 3, 10, 11, 12, 13, 11, 10, 8, 7, 5, 4, 2, 1, 0);
        heights(12, 2, 2, 40, 20, 33, 46, 60, 53, 46, 40, 33, 26, 20, 13, 6, 0);
    }

    void promise12WidestSpan() {
        heights(40, 2, 1, 40, 20, 22, 26, 29, 32, 34, 37, 39, 41, 42, 45, 45, 47, 48, 49, 49, 50, 50, 50, 49, 50, 48, 48, 47,
                46, 44, 43, 41, 39, 36, 35, 31, 29, 26, 23, 19, 16, 12, 8, 3, 0);
        heights(40, 1, 2, 3, 10, 10, 10, 10, 11, 11, 11, 12, 12, 12, 13, 12, 12, 11, 11, 10, 10, 9, 9, 9, 8, 8, 7, 7, 6, 6,
                6, 5, 5, 4, 4, 3, 3, 3, 2, 2, 1, 1, 0, 0, 0);
    }

    // ---- 13: pair

    void promise13RefusesWiresThatAreNotAndOneWireTwice() {
        for (int what = 0; what <= 3; what++) {
            laid("s8;" + "w30,1,30,1,20;".repeat(2));
            for (int i : new int[] {LEAST, -1, 2, 7, 8, MOST}) {
                due("no such first", x.pair(i, 0, what), BAD);
                due("no such second", x.pair(0, i, what), BAD);
                due("twice one that is not", x.pair(i, i, what), BAD);
            }
            due("0 twice", x.pair(0, 0, what), BAD);
            due("1 twice", x.pair(1, 1, what), BAD);
            laid(EIGHT);
            due("the last of eight", x.pair(7, 6, what), x.pair(0, 1, what));
            due("7 twice", x.pair(7, 7, what), BAD);
            due("no ninth", x.pair(7, 8, what), BAD);
            due("no ninth", x.pair(8, 7, what), BAD);
            laid("s8;");
            due("without wires", x.pair(0, 1, what), BAD);
        }
        for (int[] two : new int[][] {{1, 1}, {0, 3}, {3, 0}, {-1, 0}, {0, MOST}}) {
            changesNothing("no such pair", Boundary::busy, t -> t.pair(two[0], two[1], 3), BAD);
        }
    }

    void promise13AnswersFourQuestions() {
        for (int what : new int[] {LEAST, -1, 4, 5, MOST}) {
            changesNothing("no such question", Boundary::busy, t -> t.pair(0, 1, what), BAD);
        }
    }

    private void near(int first, int rows) {
        due("first row", x.pair(0, 1, 0), first);
        due("rows", x.pair(0, 1, 1), rows);
        due("the other way round", x.pair(1, 0, 0), first);
        due("the other way round", x.pair(1, 0, 1), rows);
    }

    void promise13NearIsLessThanGapApart() {
        for (int gap = 1; gap <= 9; gap++) {
            laid("s8;g" + gap + ";w20,0,20,0,1;w" + (20 + gap) + ",0," + (20 + gap) + ",0,1;");
            near(NONE, 0);
            x.set(1, 0, 20 + gap - 1);
            x.set(1, 2, 20 + gap - 1);
            near(0, 9);
            x.set(1, 0, 20 - gap);
            x.set(1, 2, 20 - gap);
            near(NONE, 0);
            x.set(1, 0, 20 - gap + 1);
            near(0, 8);
        }
    }

    void promise13NearByOnePart() {
        laid("s8;g1;w0,0,0,0,1;w1,0,0,0,1;");
        due("8 parts apart", x.place(1, 0) - x.place(0, 0), 8);
        due("7 parts apart", x.place(1, 1) - x.place(0, 1), 7);
        near(1, 8);
        laid("s40;g9;w0,0,0,0,1;w9,0,10,0,1;");
        near(NONE, 0);
        x.set(1, 2, 8);
        near(1, 40);
        x.set(1, 0, 8);
        x.set(1, 2, 9);
        near(0, 40);
    }

    void promise13NearIsLessThanRiseApart() {
        for (int rise : new int[] {1, 2, 6, 39}) {
            laid("s8;h" + rise + ";w20,0,20,0,1;w20,0,20,0," + (1 + rise) + ";");
            near(0, 2);
            x.set(1, 4, rise);
            near(0, 9);
            x.set(1, 4, 1);
            x.set(0, 4, 1 + rise);
            near(0, 2);
        }
        laid("s8;h40;w20,0,20,0,1;w20,1,20,0,31;");
        near(0, 2);
        x.set(1, 4, 30);
        near(0, 9);
        laid("s8;h10;w20,0,20,0,1;w20,1,20,0,1;");
        near(8, 1);
        x.limit(1, 11);
        near(0, 9);
    }

    void promise13NearNeedsBothAtOneRow() {
        laid("s8;g1;h1;w0,0,60,0,6;w60,0,0,0,6;");
        near(4, 1);
        x.set(1, 4, 7);
        near(NONE, 0);
        x.limit(1, 2);
        near(4, 1);
    }

    void promise13NearAtTheFirstOrLastRowAlone() {
        laid("s8;g1;h1;w0,0,0,0,1;w0,0,1,0,2;");
        near(0, 1);
        laid("s8;g1;h1;w0,0,0,0,1;w1,0,0,0,2;");
        near(8, 1);
        laid("s40;g1;h1;w0,0,0,0,1;w40,0,0,0,2;");
        near(40, 1);
    }

    private void crossing(int want) {
        due("cross", x.pair(0, 1, 2), want);
        due("the other way round", x.pair(1, 0, 2), want);
    }

    void promise13CrossNeedsLessAtBothEnds() {
        int[][] cases = {{0, 0, 1, 1, 0}, {0, 1, 1, 0, 1}, {0, 0, 1, 0, 0}, {0, 0, 0, 1, 0}, {0, 1, 0, 0, 0}, {0, 1, 1, 1, 0},
            {0, 0, 0, 0, 0}, {60, 0, 59, 1, 1}, {59, 0, 60, 1, 0}, {0, 60, 60, 0, 1}};
        for (int[] c : cases) {
            laid("s8;w" + c[0] + ",0," + c[1] + ",0,1;w" + c[2] + ",0," + c[3] + ",2,40;");
            crossing(c[4]);
            x.shift(-9);
            crossing(c[4]);
            x.shift(9);
            crossing(c[4]);
        }
    }

    private void way(String what, int want) {
        due(what, x.pair(0, 1, 3), want);
    }

    void promise13InTheWayIsOfTheFirstOne() {
        laid("s8;t1;w20,0,20,0,9;w24,0,24,0,1;");
        due("the low one of the high one", x.pair(0, 1, 3), 0);
        due("the high one of the low one", x.pair(1, 0, 3), 1);
    }

    void promise13InTheWayIsAsHighOrHigher() {
        for (int tier = 1; tier <= 2; tier++) {
            laid("s8;t9;w20," + tier + ",60,0,1;w20,0,0,0," + 10 * tier + ";");
            way("just as high", 1);
            x.set(1, 4, 10 * tier - 1);
            way("one lower", 0);
            x.set(1, 4, 10 * tier + 1);
            way("one higher", 1);
        }
        laid("s8;t1;w20,1,60,0,1;w20,1,0,1,1;");
        way("as high at the die", 1);
        x.set(1, 1, 0);
        way("lower at the die", 0);
    }

    /** k passes over the end of i at row 2 alone, 3 high or 2; the pads of k and i are far apart. */
    void promise13InTheWayIsLessRowsAwayThanTheToolIsWide() {
        laid("s8;t1;w20,0,0,0,1;w10,0,55,0,3;");
        way("4 is less than 5", 1);
        x.set(1, 4, 2);
        way("4 is not less than 4", 0);
        laid("s8;t1;w0,0,20,0,1;w55,0,10,0,3;");
        way("from the fingers, 4 is less than 5", 1);
        x.set(1, 4, 2);
        way("from the fingers, 4 is not less than 4", 0);
        laid("s8;t1;w20,1,60,0,1;w20,0,20,0,10;");
        way("2 is not less than 2", 0);
        x.set(1, 4, 11);
        way("2 is less than 3", 1);
        x.set(1, 4, 10);
        x.limit(2, 2);
        way("2 is less than 4", 1);
    }

    void promise13InTheWayIsLessFarAsideThanTheToolIsWide() {
        laid("s8;t1;w20,0,60,0,1;w22,0,22,0,2;");
        way("twice 16 parts are not less than 32", 0);
        x.set(1, 2, 21);
        way("twice 15 parts are less than 32", 1);
        x.set(1, 0, 18);
        x.set(1, 2, 18);
        way("on the other side, 16 parts", 0);
        x.set(1, 2, 19);
        way("on the other side, 15 parts", 1);
        laid("s9;t1;w20,0,60,0,1;w21,0,26,0,1;");
        way("twice 14 parts are not less than 27", 0);
        x.set(1, 2, 25);
        way("twice 13 parts are less than 27", 1);
    }

    /** Side by side both wires lie at height 0 at their ends, where the tool is just TOOL wide. */
    void promise13InTheWayWithEachTool() {
        for (int tool = 1; tool <= 9; tool++) {
            for (int peak : new int[] {1, 2, 40}) {
                int near = tool + (peak - 1) / 2;
                laid("s8;t" + tool + ";w0,0,0,0,1;w" + near + ",0," + near + ",0," + peak + ";");
                way(near + " apart, tool " + tool + ", peak " + peak, 1);
                x.set(1, 0, near + 1);
                x.set(1, 2, near + 1);
                way(near + 1 + " apart, tool " + tool + ", peak " + peak, 2 * (near + 1) < 2 * tool + peak ? 1 : 0);
                x.set(1, 0, near + 2);
                x.set(1, 2, near + 2);
                way(near + 2 + " apart, tool " + tool + ", peak " + peak, 0);
            }
        }
    }

    void promise13InTheWayAtOneOfTheTwoEnds() {
        laid("s8;t1;w0,0,60,0,1;w0,0,30,0,1;");
        way("at the die", 1);
        x.set(1, 0, 30);
        way("at neither", 0);
        x.set(1, 2, 60);
        way("at the fingers", 1);
        x.set(1, 0, 0);
        way("at both", 1);
        laid("s40;t9;w0,2,60,0,1;w60,0,0,0,1;");
        way("at neither", 0);
    }

    void promise13InTheWayAtTheEndsOwnRow() {
        laid("s8;t1;w20,0,0,0,1;w20,0,60,0,40;");
        way("from one pad", 1);
        x.set(0, 1, 2);
        way("over the pad of a higher tier", 1);
        laid("s8;t1;w20,2,0,0,1;w20,2,60,1,1;");
        way("just as high at row 0, lower behind it", 1);
        x.set(1, 1, 1);
        way("lower at row 0, too", 0);
    }

    void promise13IsToldByWiresLimitsAndShiftAsTheyAre() {
        laid("s8;g2;h6;t1;w20,0,20,0,1;w22,0,22,0,1;");
        near(NONE, 0);
        way("2 apart", 0);
        x.limit(0, 3);
        near(0, 9);
        x.limit(2, 2);
        way("a wider tool", 1);
        x.set(0, 1, 1);
        near(8, 1);
        x.set(0, 2, 30);
        near(NONE, 0);
        x.undo();
        near(8, 1);
        x.shift(9);
        near(8, 1);
        x.set(0, 3, 1);
        x.set(0, 4, 1);
        due("RISE 6 and heights 8 to 1", x.pair(0, 1, 0), 3);
    }

    public static void main(String[] args) {
        new WiresBoundaryTests().runAll(10, 13);
    }
}
