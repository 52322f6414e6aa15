import java.util.List;

/** The boundary cases of promises 22 to 26: what eyes see, which shifts explain it, how many of what there are. */
final class EyesBoundaryTests extends Boundary {
    /** Pads at 0, 19, 20, 40, 41, 60, all on tier 0. */
    private static final String EDGES =
            "s8;w0,0,0,0,1;w19,0,0,0,1;w20,0,0,0,1;w40,0,0,0,1;w41,0,0,0,1;w60,0,0,0,1;";
    /** Tier, from, to of looks that are none. */
    private static final int[][] BAD_LOOKS = {{-1, 0, 0}, {3, 0, 0}, {LEAST, 0, 0}, {MOST, 0, 0}, {0, -1, 0}, {0, -1, -1},
        {0, LEAST, 0}, {0, 61, 61}, {0, 60, 61}, {0, 42, 61}, {0, 60, MOST}, {0, MOST, MOST}, {0, LEAST, LEAST}, {0, 1, 0},
        {0, 60, 59}, {0, 60, 0}, {0, 0, -1}, {0, 0, 20}, {0, 1, 21}, {0, 40, 60}, {0, 0, 60}, {0, LEAST, MOST},
        {0, MOST, LEAST}, {0, 0, LEAST}, {0, 0, MOST}, {2, 40, 60}, {3, 61, -1}};

    // ---- 22: sees

    void promise22RefusesLooksThatAreNone() {
        for (int[] b : BAD_LOOKS) {
            changesNothing("sees(" + b[0] + ", " + b[1] + ", " + b[2] + ")", Boundary::busy, t -> t.sees(b[0], b[1], b[2]), BAD);
        }
        for (int from = 0; from <= 60; from++) {
            laid(EDGES);
            for (int to = -1; to <= 61; to++) {
                boolean is = to >= from && to <= 60 && to - from <= 19;
                due("from " + from + " to " + to, x.sees(0, from, to) == BAD ? BAD : 0, is ? 0 : BAD);
            }
        }
    }

    void promise22BothEndsAreSeen() {
        laid(EDGES);
        due("0 to 19", x.sees(0, 0, 19), 1 | 1 << 19);
        due("1 to 20", x.sees(0, 1, 20), 1 << 18 | 1 << 19);
        due("41 to 60", x.sees(0, 41, 60), 1 | 1 << 19);
        due("40 to 59", x.sees(0, 40, 59), 3);
        due("1 to 18", x.sees(0, 1, 18), 0);
        due("21 to 39", x.sees(0, 21, 39), 0);
    }

    void promise22OneNumber() {
        laid(EDGES);
        for (int n = 0; n <= 60; n++) {
            boolean stands = List.of(0, 19, 20, 40, 41, 60).contains(n);
            due("at " + n, x.sees(0, n, n), stands ? 1 : 0);
        }
    }

    void promise22WithShift() {
        laid(EDGES);
        x.shift(-9);
        due("0 stands below 0", x.sees(0, 0, 19), 1 << 10 | 1 << 11);
        due("60 stands at 51", x.sees(0, 41, 60), 1 << 10);
        x.shift(9);
        due("60 stands above 60", x.sees(0, 41, 60), 1 << 8 | 1 << 9);
        due("0 stands at 9", x.sees(0, 0, 19), 1 << 9);
        x.shift(-1);
        due("just below 0", x.sees(0, 0, 0), 0);
        due("60 stands at 59", x.sees(0, 59, 60), 1);
        x.shift(1);
        due("just above 60", x.sees(0, 60, 60), 0);
        due("0 stands at 1", x.sees(0, 0, 1), 2);
    }

    void promise22NoneOfAHigherTier() {
        for (int tier = 0; tier <= 2; tier++) {
            for (int other = 0; other <= 2; other++) {
                for (String text : new String[] {"w7," + tier + ",0,0,1;w7," + other + ",0,0,1;",
                    "w7," + other + ",0,0,1;w7," + tier + ",0,0,1;"}) {
                    laid("s8;" + text);
                    due("tier " + tier + " and " + other, x.sees(tier, 7, 7), other > tier ? 0 : 1);
                    due("and beside it", x.sees(tier, 6, 8), other > tier ? 0 : 2);
                }
            }
        }
        laid("s8;w7,0,0,0,1;w8,2,0,0,1;w6,1,0,0,1;");
        due("a higher one beside it hides nothing", x.sees(0, 0, 19), 1 << 7);
        due("a higher one beside it hides nothing", x.sees(1, 0, 19), 1 << 6);
        due("the highest", x.sees(2, 0, 19), 1 << 8);
        laid("s8;w7,0,0,0,1;w7,1,0,0,1;w7,2,0,0,1;");
        for (int tier = 0; tier <= 2; tier++) due("all three", x.sees(tier, 7, 7), tier == 2 ? 1 : 0);
        laid("s8;w0,0,0,0,1;w7,0,0,0,1;w19,0,0,0,1;w7,1,0,0,1;w0,2,0,0,1;w19,1,0,0,1;w3,0,0,0,1;");
        due("several are hidden", x.sees(0, 0, 19), 1 << 3);
    }

    void promise22NoWiresAndEight() {
        laid("s8;");
        for (int tier = 0; tier <= 2; tier++) due("nothing", x.sees(tier, 0, 19), 0);
        laid("s8;" + "w30,1,0,0,1;".repeat(8));
        due("one number, though eight stand there", x.sees(1, 30, 49), 1);
        StringBuilder text = new StringBuilder("s8;");
        for (int i = 0; i < 8; i++) text.append("w" + (41 + 2 * i) + ",2,0,0,1;");
        laid(text.toString());
        due("each of eight", x.sees(2, 41, 60), 0x5555);
    }

    // ---- 23: eye

    void promise23RefusesEyesThatAreNot() {
        for (int e : new int[] {LEAST, -1, 2, 3, MOST}) {
            changesNothing("no such eye", Boundary::busy, t -> t.eye(e, 0, 0, 0, 0), BAD);
            changesNothing("no such eye", Trial::new, t -> t.eye(e, 0, 0, 0, 0), BAD);
        }
    }

    void promise23RefusesLooksThatAreNone() {
        for (int[] b : BAD_LOOKS) {
            for (int eye = 0; eye <= 1; eye++) {
                int e = eye;
                changesNothing("eye(.., " + b[0] + ", " + b[1] + ", " + b[2] + ")", Boundary::busy,
                        t -> t.eye(e, b[0], b[1], b[2], 0), BAD);
                changesNothing("of a new one", Trial::new, t -> t.eye(e, b[0], b[1], b[2], 0), BAD);
            }
        }
    }

    void promise23RefusesBitsBeyondThoseNumbers() {
        for (int numbers = 1; numbers <= 20; numbers++) {
            int last = numbers - 1;
            laid("s8;");
            due("no bit", x.eye(0, 0, 0, last, 0), 1);
            due("all bits", x.eye(0, 2, 60 - last, 60, (1 << numbers) - 1), 1);
            for (int bits : new int[] {LEAST, -1, 1 << numbers, (1 << numbers) + 1, MOST}) {
                due(bits + " on " + numbers, x.eye(1, 0, 0, last, bits), BAD);
            }
            due("one eye alone has been told", x.forget(), 1);
        }
        for (int bits : new int[] {LEAST, -1, 2, MOST}) {
            changesNothing("bits beyond one number", Boundary::busy, t -> t.eye(0, 0, 5, 5, bits), BAD);
        }
        for (int bits : new int[] {LEAST, -1, 1 << 20, MOST}) {
            changesNothing("bits beyond 20 numbers", Boundary::busy, t -> t.eye(1, 0, 41, 60, bits), BAD);
        }
    }

    void promise23HowManyHaveBeenTold() {
        fresh();
        due("the second one alone", x.eye(1, 0, 0, 0, 0), 1);
        due("the same again", x.eye(1, 0, 0, 0, 0), 1);
        due("both", x.eye(0, 2, 60, 60, 1), 2);
        due("one again", x.eye(0, 1, 0, 19, 0), 2);
        due("one again", x.eye(1, 1, 0, 19, 0), 2);
        fresh();
        due("the first one alone", x.eye(0, 0, 0, 0, 0), 1);
    }

    void promise23ToldAgainTheLaterOneCounts() {
        laid("s8;w10,0,0,0,1;");
        x.eye(0, 0, 11, 11, 1);
        due("shift 1", x.explains(1), ZERO + 1);
        x.eye(0, 0, 12, 13, 2);
        due("shift 3", x.explains(1), ZERO + 3);
        due("shift 3 alone", x.explains(0), 1);
        x.eye(0, 1, 12, 13, 0);
        due("another tier", x.explains(0), 19);
        x.eye(0, 0, 10, 10, 0);
        due("all but 0", x.explains(0), 18);
        x.eye(1, 0, 10, 10, 1);
        due("one against the other", x.explains(0), 0);
    }

    void promise23SightsAreNoChange() {
        laid("s8;w10,0,0,0,1;");
        x.eye(0, 0, 0, 0, 0);
        x.eye(1, 0, 0, 0, 0);
        x.forget();
        due("none", x.count(9), 0);
        due("none", x.undo(), NO);
    }

    // ---- 24: forget

    void promise24HowManyHadBeenTold() {
        fresh();
        due("none", x.forget(), 0);
        x.eye(0, 0, 0, 0, 1);
        due("the first one", x.forget(), 1);
        due("none", x.forget(), 0);
        x.eye(1, 0, 0, 0, 1);
        due("the second one", x.forget(), 1);
        x.eye(0, 0, 0, 0, 1);
        x.eye(1, 0, 0, 0, 1);
        x.eye(1, 0, 0, 1, 1);
        due("both", x.forget(), 2);
        due("none", x.forget(), 0);
        due("one anew", x.eye(1, 0, 0, 0, 1), 1);
    }

    void promise24AllShiftsExplainThen() {
        laid("s8;w10,0,0,0,1;");
        for (int e = 0; e <= 1; e++) {
            x.eye(e, 0, 0, 0, 1);
            due("none", x.explains(0), 0);
            x.forget();
            due("all", x.explains(0), 19);
            due("0", x.explains(1), ZERO);
        }
    }

    void promise24LeavesTheRest() {
        changesNothing("without sights", busyAnd(Trial::forget), Trial::forget, 0);
        alike("told and forgotten", laying("s8;w10,0,0,0,1;"), () -> {
            Trial t = laying("s8;w10,0,0,0,1;").get();
            t.eye(0, 0, 0, 0, 1);
            t.forget();
            return t;
        });
    }

    // ---- 25: explains

    void promise25AnswersTwoQuestions() {
        for (int what : new int[] {LEAST, -1, 2, 3, MOST}) {
            changesNothing("no such question", Boundary::busy, t -> t.explains(what), BAD);
            changesNothing("no such question", Trial::new, t -> t.explains(what), BAD);
        }
    }

    private void explained(int how, int nearest) {
        due("how many", x.explains(0), how);
        due("the nearest", x.explains(1), nearest);
    }

    void promise25All19IfNoEyeWasTold() {
        fresh();
        explained(19, ZERO);
        x.shift(9);
        explained(19, ZERO);
        laid("s8;");
        explained(19, ZERO);
        laid("s8;" + "w30,1,0,0,1;".repeat(8));
        explained(19, ZERO);
    }

    void promise25ShiftsAreMinus9To9() {
        for (int shift = -11; shift <= 11; shift++) {
            boolean is = shift >= -9 && shift <= 9;
            laid("s8;w30,0,0,0,1;");
            x.eye(0, 0, 30 + shift, 30 + shift, 1);
            explained(is ? 1 : 0, is ? ZERO + shift : NONE);
            x.eye(0, 0, 30 + shift, 30 + shift, 0);
            explained(is ? 18 : 19, shift == 0 ? ZERO - 1 : ZERO);
        }
    }

    void promise25OfTwoTheOneBelow0() {
        for (int far = 1; far <= 9; far++) {
            laid("s8;w" + (30 - far) + ",0,0,0,1;w" + (30 + far) + ",0,0,0,1;");
            x.eye(1, 0, 30, 30, 1);
            explained(2, ZERO - far);
        }
        laid("s8;w27,0,0,0,1;w34,0,0,0,1;");
        x.eye(1, 0, 30, 30, 1);
        explained(2, ZERO + 3);
        laid("s8;w26,0,0,0,1;w33,0,0,0,1;");
        x.eye(1, 0, 30, 30, 1);
        explained(2, ZERO - 3);
    }

    void promise25EachEyeThatWasToldMustSeeJustThat() {
        laid("s8;w10,0,0,0,1;w14,0,0,0,1;");
        x.eye(0, 0, 12, 12, 1);
        explained(2, ZERO - 2);
        x.eye(1, 0, 15, 16, 2);
        explained(1, ZERO + 2);
        x.eye(1, 0, 15, 16, 3);
        explained(0, NONE);
        x.eye(1, 0, 12, 16, 17);
        explained(1, ZERO + 2);
        x.eye(1, 0, 8, 16, 16);
        explained(0, NONE);
        x.eye(1, 1, 8, 16, 0);
        explained(2, ZERO - 2);
    }

    void promise25WithoutWires() {
        laid("s8;");
        x.eye(0, 0, 0, 19, 0);
        explained(19, ZERO);
        x.eye(1, 0, 0, 19, 1);
        explained(0, NONE);
    }

    void promise25AtTheEndsOfWhatIsSeen() {
        laid("s8;w0,0,0,0,1;w60,0,0,0,1;");
        x.eye(0, 0, 0, 0, 1);
        explained(1, ZERO);
        x.eye(0, 0, 0, 0, 0);
        explained(18, ZERO - 1);
        x.eye(0, 0, 60, 60, 1);
        explained(1, ZERO);
        x.eye(0, 0, 0, 19, 0);
        x.eye(1, 0, 41, 60, 1 << 10);
        explained(1, ZERO - 9);
        x.eye(0, 0, 0, 19, 1 << 9);
        x.eye(1, 0, 41, 60, 0);
        explained(1, ZERO + 9);
    }

    void promise25WhateverShiftIsNow() {
        laid("s8;w30,0,0,0,1;");
        x.eye(0, 0, 32, 32, 1);
        for (int s : new int[] {-9, 9, 2, 0}) {
            x.shift(s);
            explained(1, ZERO + 2);
            due("no shift was made", x.count(11), ZERO + s);
        }
    }

    void promise25HigherTiersHideWithEachShift() {
        laid("s8;w30,0,0,0,1;w31,0,0,0,1;w31,1,0,0,1;");
        x.eye(0, 0, 30, 31, 2);
        explained(1, ZERO + 1);
        x.eye(0, 0, 30, 31, 0);
        explained(17, ZERO - 1);
        x.set(2, 1, 0);
        x.eye(0, 0, 30, 31, 3);
        explained(1, ZERO);
    }

    void promise25AsWiresAreThen() {
        laid("s8;w30,0,0,0,1;");
        x.eye(0, 0, 32, 32, 1);
        x.set(0, 0, 31);
        explained(1, ZERO + 1);
        x.set(0, 1, 1);
        explained(0, NONE);
        x.undo();
        x.undo();
        explained(1, ZERO + 2);
    }

    // ---- 26: count

    void promise26AnswersThirteenQuestions() {
        for (int what : new int[] {LEAST, -1, 13, 14, MOST}) {
            changesNothing("no such question", Boundary::busy, t -> t.count(what), BAD);
        }
        laid("s8;t1;g2;h3;w0,0,60,0,6;w60,0,0,0,6;w0,0,60,0,6;");
        int[] want = {3, 8, 2, 3, 1, 0, 3, 2, 2, 0, 48, ZERO, 3 * (8 + 60 + 12)};
        for (int what = 0; what < want.length; what++) due("count(" + what + ")", x.count(what), want[what]);
    }

    void promise26WithoutWires() {
        laid("s8;");
        int[] want = {0, 8, 2, 6, 2, 0, 0, 0, 0, 0, 3, ZERO, 0};
        for (int what = 0; what < want.length; what++) due("count(" + what + ")", x.count(what), want[what]);
    }

    void promise26WithOneWire() {
        laid("s40;g9;h40;t9;w60,2,0,0,40;");
        int[] want = {1, 40, 9, 40, 9, 0, 0, 0, 0, 0, 27, ZERO, 40 + 60 + 100};
        for (int what = 0; what < want.length; what++) due("count(" + what + ")", x.count(what), want[what]);
    }

    void promise26WithEightInOnePlace() {
        laid("s8;" + "w30,0,30,0,9;".repeat(8));
        int[] want = {8, 8, 2, 6, 2, 0, 28, 0, 56, 0, 107, ZERO, 8 * (8 + 18)};
        for (int what = 0; what < want.length; what++) due("count(" + what + ")", x.count(what), want[what]);
    }

    void promise26WithEightThatAllCross() {
        StringBuilder text = new StringBuilder("s8;");
        for (int i = 0; i < 8; i++) text.append("w" + i + ",0," + (7 - i) + ",0,1;");
        laid(text.toString());
        due("all cross", x.count(7), 28);
        due("the lengths", x.count(12), 8 * 10 + 2 * (7 + 5 + 3 + 1));
        x.set(0, 2, 0);
        due("the first crosses none any more", x.count(7), 21);
    }

    void promise26WithEightFarApart() {
        StringBuilder text = new StringBuilder("s8;t1;");
        for (int i = 0; i < 8; i++) text.append("w" + 8 * i + ",0," + 8 * i + ",0,1;");
        laid(text.toString());
        for (int what = 5; what <= 9; what++) due("none", x.count(what), 0);
        for (int i = 0; i < 8; i++) x.bond(i);
        due("all bonded", x.count(5), 8);
        due("six changes", x.count(9), 6);
    }

    /** A pair is counted once if its wires are NEAR or CROSS, but for each way in which one is IN THE WAY. */
    void promise26PairsAreCounted() {
        laid("s8;t1;g1;h1;w0,0,0,0,9;w4,0,4,0,1;");
        due("one way", x.count(8), 1);
        x.set(1, 4, 9);
        due("both ways", x.count(8), 2);
        x.set(0, 0, 20);
        due("they cross", x.count(7), 1);
        due("near at no row", x.count(6), 0);
        x.limit(0, 5);
        due("near", x.count(6), 1);
    }

    void promise26ShiftAndLettersAtTheirEnds() {
        laid("s8;" + "g1;".repeat(63) + "h10;".repeat(2));
        due("letters", x.count(10), 200);
        x.write('x');
        due("letters", x.count(10), 200);
        x.wipe();
        due("letters", x.count(10), 0);
        x.shift(-9);
        due("shift", x.count(11), ZERO - 9);
        x.shift(9);
        due("shift", x.count(11), ZERO + 9);
    }

    void promise26LengthsGoWithShift() {
        laid("s8;w0,0,0,0,1;w60,0,60,0,1;");
        due("straight", x.count(12), 20);
        x.shift(-9);
        due("9 aside", x.count(12), 38);
        x.shift(9);
        due("9 aside", x.count(12), 38);
    }

    void promise26ChangesFrom0To6() {
        laid("s8;w0,0,0,0,1;");
        for (int change = 0; change <= 8; change++) {
            due("changes", x.count(9), Math.min(change, 6));
            x.set(0, 0, change + 1);
        }
        for (int left = 5; left >= 0; left--) {
            x.undo();
            due("changes", x.count(9), left);
        }
    }

    public static void main(String[] args) {
        new EyesBoundaryTests().runAll(22, 26);
    }
}
