import java.util.ArrayList;
import java.util.List;
import java.util.function.Supplier;
import java.util.function.ToIntFunction;

/** The boundary cases of promises 1 to 9: the text, what is told anew, what can be undone. */
final class ToldBoundaryTests extends Boundary {
    private static final String FIRST =
            "s20;g2;h6;t2;w10,0,8,1,12;w14,0,16,1,12;w18,1,24,2,16;w22,2,20,0,6;w26,0,32,1,9;";
    private static final String LOW_WIRE = "w0,0,0,0,1;";
    /** 200 letters. */
    private static final String FULL_TEXT = "s8;" + "g1;".repeat(63) + "h10;".repeat(2);
    /** 200 letters and eight wires. */
    private static final String FULL_OF_WIRES = "s8;" + "w10,2,10,0,40;".repeat(8) + "g1;".repeat(27) + "h10;";
    private static final int[] LOWEST = {0, 0, 0, 0, 1};
    private static final int[] HIGHEST = {60, 2, 60, 2, 40};
    private static final int[] MOST_LIMIT = {9, 40, 9};
    private static final int[] USUAL_LIMIT = {2, 6, 2};

    // ---- 1: a new object

    void promise1IsAsTold() {
        alike("as the first text tells it", Trial::new, () -> {
            Trial made = laying(FIRST).get();
            made.wipe();
            return made;
        });
        fresh();
        int[] want = {5, 20, 2, 6, 2, 0, 1, 1, 11, 0, 0, ZERO, 258};
        for (int what = 0; what < want.length; what++) due("count", x.count(what), want[what]);
    }

    void promise1HasFiveWires() {
        fresh();
        due("the fifth", x.wire(4, 0), 26);
        due("no sixth", x.wire(5, 0), BAD);
    }

    void promise1TextIsEmpty() {
        fresh();
        due("its length", x.count(10), 0);
        due("it has no fault", x.fault(), NONE);
        due("it can't be laid", x.lay(), NO);
        due("nothing to wipe", x.wipe(), 0);
        due("the first letter", x.write('s'), 1);
    }

    void promise1HasNoSights() {
        fresh();
        due("all shifts explain", x.explains(0), 19);
        due("0 is nearest", x.explains(1), ZERO);
        due("no eye was told", x.forget(), 0);
    }

    void promise1NothingIsBondedShiftedOrToBeUndone() {
        fresh();
        due("shift", x.count(11), ZERO);
        due("bonded", x.count(5), 0);
        due("changes", x.count(9), 0);
        due("undo", x.undo(), NO);
    }

    private static final String ONE_TEXT = "s8;t1;g1;w0,0,0,0,9;w4,0,4,0,9;w20,0,20,0,1;";
    private static final String OTHER_TEXT = "s9;t3;g4;w5,1,9,2,7;w8,2,1,1,3;w30,1,30,0,2;";

    /** Tells them by turns: a letter each, a change each. */
    private static void byTurns(Trial... objects) {
        for (int at = 0; at < ONE_TEXT.length(); at++) {
            for (int o = 0; o < objects.length; o++) objects[o].write((o == 0 ? ONE_TEXT : OTHER_TEXT).charAt(at));
        }
        for (Trial each : objects) each.lay();
        for (int o = 0; o < objects.length; o++) objects[o].shift(3 + o);
        for (int o = 0; o < objects.length; o++) objects[o].bond(2 * o);
        for (int o = 0; o < objects.length; o++) objects[o].set(1, 0, 40 + o);
        for (int o = 0; o < objects.length; o++) objects[o].eye(o, o, 0, 19, 8 + o);
    }

    void promise1SharesNothingWithOtherObjects() {
        Trial ahead = new Trial();
        busy().writeAll("x");
        alike("made ahead of a busy one", () -> ahead, Trial::new);
        due("texts as long as each other", OTHER_TEXT.length(), ONE_TEXT.length());
        Trial one = new Trial();
        byTurns(one, new Trial());
        alike("told by turns with another one", () -> one, () -> {
            Trial alone = new Trial();
            byTurns(alone);
            return alone;
        });
    }

    void promise1AnswersTheLastOf512Calls() {
        fresh();
        for (int call = 1; call <= 500; call++) due("set", x.set(0, 0, call % 2 == 1 ? 11 : 10), call % 2 == 1 ? 10 : 11);
        for (int more = 5; more >= 0; more--) due("undo", x.undo(), more);
        due("507th", x.undo(), NO);
        due("508th", x.wire(0, 0), 10);
        due("509th", x.write('s'), 1);
        due("510th", x.fault(), 0);
        due("511th", x.count(12), 258);
        due("512th", x.wire(0, 6), 46);
    }

    // ---- 2: write

    void promise2TakesLettersFrom32To126() {
        fresh();
        for (int letter = 32; letter <= 126; letter++) due("how long it is", x.write(letter), letter - 31);
        due("how long it is", x.count(10), 95);
    }

    void promise2RefusesOtherLetters() {
        for (int letter : new int[] {LEAST, -1, 0, 10, 31, 127, 128, 255, 256 + 's', 65536 + 's', LEAST + 's', MOST}) {
            changesNothing("write(" + letter + ")", Boundary::busy, t -> t.write(letter), BAD);
        }
    }

    void promise2TakesThe200thLetterAndNoMore() {
        fresh();
        for (int length = 1; length <= 200; length++) due("how long it is", x.write(FULL_TEXT.charAt(length - 1)), length);
        due("the 201st", x.write('g'), FULL);
        due("the 202nd", x.write(' '), FULL);
        due("how long it is", x.count(10), 200);
    }

    void promise2FullTextStaysAsItIs() {
        for (int letter : new int[] {32, ';', 's', 126}) {
            changesNothing("full", laying(FULL_TEXT), t -> t.write(letter), FULL);
        }
    }

    void promise2BadComesAheadOfFull() {
        for (int letter : new int[] {LEAST, 31, 127, MOST}) {
            changesNothing("full and bad", laying(FULL_TEXT), t -> t.write(letter), BAD);
        }
    }

    void promise2RefusedLetterIsNotInTheText() {
        written("s8");
        x.write(127);
        due("the next letter", x.write(';'), 3);
        due("fault", x.fault(), NONE);
        due("lay", x.lay(), 0);
    }

    void promise2HasRoomAgainBehindWipe() {
        written(FULL_TEXT);
        due("full", x.write('s'), FULL);
        x.wipe();
        due("the first", x.write('s'), 1);
    }

    // ---- 3: wipe

    void promise3OfTheEmptyTextIs0() {
        fresh();
        due("a new one", x.wipe(), 0);
        due("again", x.wipe(), 0);
        changesNothing("empty", busyAnd(Trial::wipe), Trial::wipe, 0);
    }

    void promise3OfOneLetterAndOf200() {
        written("s");
        due("one", x.wipe(), 1);
        written(FULL_TEXT.substring(0, 199));
        due("199", x.wipe(), 199);
        written(FULL_TEXT + "x");
        due("full", x.wipe(), 200);
        due("and none then", x.wipe(), 0);
    }

    void promise3LeavesAnEmptyText() {
        written("s8;g0;");
        x.wipe();
        due("its length", x.count(10), 0);
        due("no fault", x.fault(), NONE);
        due("nothing to lay", x.lay(), NO);
    }

    void promise3NothingOfTheOldTextComesBack() {
        written("s8;g9;" + LOW_WIRE);
        x.wipe();
        x.writeAll("s9");
        due("a part of the text ahead", x.fault(), 0);
        x.write(';');
        due("no wire", x.lay(), 0);
        due("GAP as if not told", x.count(2), 2);
    }

    void promise3LeavesAllButTheText() {
        x = busy();
        List<Integer> ahead = x.asItIs();
        x.wipe();
        List<Integer> behind = x.asItIs();
        due("letters", behind.get(10), 0);
        for (int at = 0; at < ahead.size(); at++) {
            if (at != 10) due("the rest stays", behind.get(at), ahead.get(at));
        }
        for (int more = 5; more >= 0; more--) due("changes stay", x.undo(), more);
        due("sights stay", x.forget(), 2);
    }

    // ---- 4: fault

    private void faultOf(String text, int want) {
        written(text);
        due("fault of " + text, x.fault(), want);
    }

    void promise4OfTheEmptyTextIsNone() {
        faultOf("", NONE);
    }

    void promise4SpanIs8To40() {
        for (int n = 0; n <= 99; n++) faultOf("s" + n + ";", n >= 8 && n <= 40 ? NONE : 0);
        for (int n = 0; n <= 9; n++) faultOf("s0" + n + ";", n >= 8 ? NONE : 0);
    }

    void promise4LimitsHaveTheirRanges() {
        for (int which = 0; which < 3; which++) {
            String letter = "ght".substring(which, which + 1);
            for (int n = 0; n <= 99; n++) {
                faultOf("s8;" + letter + n + ";", n >= 1 && n <= MOST_LIMIT[which] ? NONE : 3);
            }
            for (int n = 0; n <= 9; n++) faultOf("s8;" + letter + "0" + n + ";", n >= 1 ? NONE : 3);
        }
    }

    /** A wire whose numbers are least but for one. */
    private static String wireWith(int what, String number) {
        StringBuilder item = new StringBuilder("w");
        for (int w = 0; w < 5; w++) item.append(w == what ? number : "" + LOWEST[w]).append(w < 4 ? "," : ";");
        return item.toString();
    }

    void promise4NumbersOfAWireHaveTheirRanges() {
        for (int what = 0; what < 5; what++) {
            for (int n = 0; n <= 99; n++) {
                faultOf("s8;" + wireWith(what, "" + n), n >= LOWEST[what] && n <= HIGHEST[what] ? NONE : 3);
            }
            for (int n = 0; n <= 9; n++) {
                faultOf("s8;" + wireWith(what, "0" + n), n >= LOWEST[what] && n <= HIGHEST[what] ? NONE : 3);
            }
        }
        faultOf("s8;w60,2,60,2,40;", NONE);
    }

    void promise4NumbersHaveOneOrTwoFigures() {
        for (String number : new String[] {"", "008", "010", "100"}) faultOf("s" + number + ";", 0);
        for (String number : new String[] {"", "001", "010", "100", "000"}) {
            for (String letter : new String[] {"g", "h", "t"}) faultOf("s8;" + letter + number + ";", 3);
            for (int what = 0; what < 5; what++) faultOf("s8;" + wireWith(what, number), 3);
        }
    }

    void promise4SStandsJustOnce() {
        faultOf("s8;s8;", 3);
        faultOf("s8;s9;", 3);
        faultOf("s40;g1;s40;", 7);
        faultOf("s8;" + LOW_WIRE + "s8;", 14);
    }

    void promise4SIsTheFirstItem() {
        faultOf("g2;", 0);
        faultOf("g2;s8;", 0);
        faultOf("h6;s8;", 0);
        faultOf("t2;s8;", 0);
        faultOf(LOW_WIRE + "s8;", 0);
        faultOf(";s8;", 0);
        faultOf(" s8;", 0);
        for (char first = 32; first <= 126; first++) faultOf(first + "9;", first == 's' ? NONE : 0);
    }

    void promise4OnlyTheseLettersBeginAnItem() {
        for (char first = 32; first <= 126; first++) {
            boolean isLimit = "ght".indexOf(first) >= 0;
            faultOf("s8;" + first + "1;", isLimit ? NONE : 3);
            faultOf("s8;" + first + "0,0,0,0,1;", first == 'w' ? NONE : 3);
        }
    }

    void promise4ASemicolonIsBehindEachItem() {
        for (char end = 32; end <= 126; end++) {
            faultOf("s8" + end, end == ';' ? NONE : 0);
            faultOf("s8;g1" + end, end == ';' ? NONE : 3);
            faultOf("s8;w0,0,0,0,1" + end, end == ';' ? NONE : 3);
        }
        for (String item : new String[] {"g1", "h6", "t2", "w0,0,0,0,1"}) faultOf("s8;" + item, 3);
        faultOf("s8", 0);
        faultOf("s8;;", 3);
        faultOf("s8;g1;;g1;", 6);
    }

    void promise4ACommaIsBetweenTheNumbersOfAWire() {
        for (char between = 32; between <= 126; between++) {
            int want = between == ',' ? NONE : 3;
            faultOf("s8;w10" + between + "0,10,0,10;", want);
            faultOf("s8;w10,0" + between + "10,0,10;", want);
            faultOf("s8;w10,0,10" + between + "0,10;", want);
            faultOf("s8;w10,0,10,0" + between + "10;", want);
        }
    }

    void promise4OnlyFiguresAreNumbers() {
        for (char figure = 32; figure <= 126; figure++) {
            boolean is = figure >= '0' && figure <= '9';
            faultOf("s1" + figure + ";", is ? NONE : 0);
            faultOf("s" + figure + "0;", figure >= '1' && figure <= '4' ? NONE : 0);
            faultOf("s8;g" + figure + ";", is && figure != '0' ? NONE : 3);
            faultOf("s8;w" + figure + ",0,0,0,1;", is ? NONE : 3);
            faultOf("s8;w0,0,0,0,1" + figure + ";", is ? NONE : figure == ';' ? 14 : 3);
        }
    }

    void promise4AWireHasFiveNumbers() {
        faultOf("s8;w;", 3);
        faultOf("s8;w1;", 3);
        faultOf("s8;w1,1;", 3);
        faultOf("s8;w1,1,1;", 3);
        faultOf("s8;w1,1,1,1;", 3);
        faultOf("s8;w1,1,1,1,1;", NONE);
        faultOf("s8;w1,1,1,1,1,1;", 3);
        faultOf("s8;w1,1,1,1,1,;", 3);
        faultOf("s8;w,1,1,1,1;", 3);
        faultOf("s8;w1,1,1,1,;", 3);
        faultOf("s8;g1,1;", 3);
        faultOf("s8,8;", 0);
    }

    void promise4TakesEightWiresAndNoNinth() {
        faultOf("s8;" + LOW_WIRE.repeat(8), NONE);
        faultOf("s8;" + LOW_WIRE.repeat(9), 3 + 8 * 11);
        faultOf("s8;" + LOW_WIRE.repeat(8) + "g1;", NONE);
        faultOf("s8;" + LOW_WIRE.repeat(8) + "g1;" + LOW_WIRE + "g0;", 3 + 8 * 11 + 3);
        faultOf("s8;" + LOW_WIRE.repeat(8) + "w99;", 3 + 8 * 11);
    }

    void promise4IsTheFirstOfSeveral() {
        faultOf("s7;g0;", 0);
        faultOf("s8;g0;h0;", 3);
        faultOf("s8;g1;h0;g0;", 6);
        faultOf("s8;" + LOW_WIRE + "w61,0,0,0,1;g0;", 14);
        faultOf("s8;g1;" + LOW_WIRE + "x", 17);
    }

    void promise4LimitsStandAnywhereBehindS() {
        faultOf("s8;g1;h1;t1;" + LOW_WIRE + "t9;h40;g9;" + LOW_WIRE + "g5;g5;", NONE);
    }

    void promise4LooksAtAll200Letters() {
        due("letters", FULL_TEXT.length(), 200);
        due("letters", FULL_OF_WIRES.length(), 200);
        faultOf(FULL_TEXT, NONE);
        faultOf(FULL_OF_WIRES, NONE);
        faultOf("s8;" + "g1;".repeat(65) + "g1", 198);
        faultOf("s8;" + "g1;".repeat(63) + "h10;" + "g1;" + "g", 199);
        faultOf("s8;" + "g1;".repeat(63) + "h10;" + "h41;", 196);
        faultOf(FULL_TEXT + ";", NONE);
    }

    void promise4ChangesNothing() {
        changesNothing("none", Boundary::busy, Trial::fault, NONE);
        changesNothing("one", busyAnd(t -> t.write('x')), Trial::fault, 44);
    }

    void promise4IsOfTheTextNotOfWhatIsLaid() {
        laid("s8;" + LOW_WIRE);
        x.write('g');
        due("of the text", x.fault(), 14);
        due("the wire is there", x.count(0), 1);
        x.wipe();
        due("of the text", x.fault(), NONE);
    }

    // ---- 5: lay

    private void layOf(String text, int want) {
        written(text);
        due("lay of " + text, x.lay(), want);
        due("the text stays", x.count(10), text.length());
        if (want >= 0) due("wires", x.count(0), want);
    }

    void promise5OfNoWireToEight() {
        for (int wires = 0; wires <= 8; wires++) layOf("s8;" + LOW_WIRE.repeat(wires), wires);
        layOf("s8;" + LOW_WIRE.repeat(9), NO);
        layOf(FULL_TEXT, 0);
        layOf(FULL_OF_WIRES, 8);
    }

    void promise5NeedsAnS() {
        changesNothing("a new one", Trial::new, Trial::lay, NO);
        changesNothing("an empty text", busyAnd(Trial::wipe), Trial::lay, NO);
    }

    void promise5RefusesATextWithFault() {
        for (String text : new String[] {"s", "s8", "s7;", "s41;", "g2;", "s8;s8;", "s8;g0;", "s8;h41;", "s8;w0,0,0,0,41;",
            "s8;g5;h5;t5;w1,1,1,1,1;x", "s40;w1,1,1,1,1;w1,1,1,1,1", "s30;w5,1,5,1,5;w6,1,6,1,6;w7,1,7,1,7;w8,1,8,1,0;"}) {
            changesNothing("lay of " + text, busyAnd(t -> t.wipe() + t.writeAll(text).count(10)), Trial::lay, NO);
        }
    }

    void promise5ShiftIs0NoneBondedNoSightsNothingUndone() {
        x = busy();
        due("shifted", x.count(11), ZERO + 5);
        due("bonded", x.count(5), 1);
        due("changes", x.count(9), 6);
        due("lay", x.lay(), 3);
        due("shift", x.count(11), ZERO);
        due("bonded", x.count(5), 0);
        for (int i = 0; i < 3; i++) due("bonded", x.wire(i, 5), 0);
        due("changes", x.count(9), 0);
        due("undo", x.undo(), NO);
        due("explains", x.explains(0), 19);
        due("sights", x.forget(), 0);
        due("all as in the text", x.wire(2, 0), 40);
        due("all as in the text", x.count(2), 1);
        due("all as in the text", x.wire(1, 4), 9);
    }

    void promise5ChangesAreCountedAnew() {
        x = busy();
        x.lay();
        due("the first", x.shift(1), ZERO);
        due("one", x.count(9), 1);
        due("undone", x.undo(), 0);
        due("shift", x.count(11), ZERO);
        due("no more", x.undo(), NO);
    }

    void promise5TheTextStays() {
        laid("s8;g3;" + LOW_WIRE);
        due("its length", x.count(10), 17);
        due("no fault", x.fault(), NONE);
        due("laid again", x.lay(), 1);
        x.writeAll(LOW_WIRE);
        due("laid with more", x.lay(), 2);
        due("still", x.count(2), 3);
    }

    void promise5LaidTwiceIsAsLaidOnce() {
        String text = "s9;g9;w60,2,0,2,40;";
        alike("twice", laying(text), () -> {
            Trial made = laying(text).get();
            made.lay();
            return made;
        });
        alike("behind changes", laying("s8;t1;g1;w0,0,0,0,9;w4,0,4,0,9;w40,1,40,1,5;"), busyAnd(Trial::lay));
    }

    void promise5LimitsThatAreNotToldAre2And6And2() {
        for (int which = 0; which < 3; which++) {
            laid("s8;g9;h40;t9;");
            x.wipe();
            x.writeAll("s8;" + "ght".charAt(which) + "5;");
            due("lay", x.lay(), 0);
            for (int l = 0; l < 3; l++) due("limit " + l, x.count(2 + l), l == which ? 5 : USUAL_LIMIT[l]);
        }
        x.limit(0, 9);
        x.limit(1, 9);
        x.wipe();
        x.writeAll("s8;");
        x.lay();
        for (int l = 0; l < 3; l++) due("none told", x.count(2 + l), USUAL_LIMIT[l]);
    }

    void promise5OfSeveralLimitsTheLastOneCounts() {
        laid("s8;g9;g1;h40;" + LOW_WIRE + "h1;t1;t9;g3;g4;");
        due("GAP", x.count(2), 4);
        due("RISE", x.count(3), 1);
        due("TOOL", x.count(4), 9);
    }

    void promise5NumbersAtBothEndsOfTheirRanges() {
        laid("s40;g9;h40;t9;w0,0,0,0,1;w60,2,60,2,40;w00,00,00,00,01;");
        for (int what = 0; what < 5; what++) {
            due("the least", x.wire(0, what), LOWEST[what]);
            due("the most", x.wire(1, what), HIGHEST[what]);
            due("with a figure more", x.wire(2, what), LOWEST[what]);
        }
        due("SPAN", x.count(1), 40);
        for (int l = 0; l < 3; l++) due("limit", x.count(2 + l), MOST_LIMIT[l]);
        laid("s08;g01;h1;t01;");
        due("SPAN", x.count(1), 8);
        for (int l = 0; l < 3; l++) due("limit", x.count(2 + l), 1);
    }

    /** "numbers have one or two figures": 07 is a number of two figures, and it is 7. */
    void promise5ANumberMayBeginWith0() {
        for (int n = 1; n <= 9; n++) {
            int tier = n % 3;
            String numbers = "g%1$s;h%1$s;t%1$s;w%1$s,%2$s,%1$s,%2$s,%1$s;";
            String one = "s8;" + String.format(numbers, "" + n, "" + tier);
            String two = "s08;" + String.format(numbers, "0" + n, "0" + tier);
            alike(two + " is as " + one, laidAndWiped(one), laidAndWiped(two));
            laid(two);
            for (int what = 0; what < 5; what++) due("wire", x.wire(0, what), what % 2 == 0 ? n : tier);
            for (int l = 0; l < 3; l++) due("limit " + l, x.count(2 + l), n);
            due("SPAN", x.count(1), 8);
        }
    }

    private static Supplier<Trial> laidAndWiped(String text) {
        return () -> {
            Trial made = laying(text).get();
            made.wipe();
            return made;
        };
    }

    /** "what they are, if a TEXT does not tell them": one that is laid, not one ahead of it or with a FAULT. */
    void promise5LimitsToldOtherwiseAheadOfATextDoNotCount() {
        for (int which = 0; which < 3; which++) {
            String told = "s8;" + "ght".charAt(which) + "7;";
            laid(told);
            due("told by the text", x.count(2 + which), 7);
            x.limit(which, 8);
            x.writeAll("x");
            due("a text with a fault tells nothing", x.lay(), NO);
            due("still", x.count(2 + which), 8);
            x.wipe();
            due("the empty text tells nothing", x.lay(), NO);
            due("still", x.count(2 + which), 8);
            x.writeAll("s8;" + LOW_WIRE);
            due("not told", x.lay(), 1);
            due("as in the brackets", x.count(2 + which), USUAL_LIMIT[which]);
            due("nothing brings back what it was", x.undo(), NO);
            due("told anew", x.limit(which, 9), USUAL_LIMIT[which]);
            due("undone", x.undo(), 0);
            due("as in the brackets", x.count(2 + which), USUAL_LIMIT[which]);
        }
    }

    void promise5EachNumberGoesToItsPlace() {
        laid("s8;w11,1,22,2,33;w9,2,8,1,7;");
        int[][] want = {{11, 1, 22, 2, 33}, {9, 2, 8, 1, 7}};
        for (int i = 0; i < 2; i++) {
            for (int what = 0; what < 5; what++) due("wire " + i, x.wire(i, what), want[i][what]);
        }
    }

    void promise5OldWiresAndRowsAreGone() {
        laid("s40;" + "w10,2,10,0,40;".repeat(8));
        due("the last wire", x.wire(7, 0), 10);
        due("the last row", x.height(0, 40), 0);
        x.wipe();
        x.writeAll("s8;" + LOW_WIRE);
        due("lay", x.lay(), 1);
        due("no second wire", x.wire(1, 0), BAD);
        due("no ninth row", x.height(0, 9), BAD);
        due("the eighth row", x.height(0, 8), 0);
        due("nobody in the way", x.ready(), 1);
        due("one order", x.orders(), 1);
        due("nobody else is seen", x.sees(2, 0, 19), 0);
        due("its own length", x.count(12), 10);
    }

    // ---- 6: set

    private static final String EIGHT = "s8;" + "w30,1,30,1,20;".repeat(8);

    void promise6TakesBothEndsOfEachRange() {
        for (int what = 0; what < 5; what++) {
            laid("s8;w30,1,30,1,20;");
            int was = x.wire(0, what);
            due("the least", x.set(0, what, LOWEST[what]), was);
            due("it is so", x.wire(0, what), LOWEST[what]);
            due("the most", x.set(0, what, HIGHEST[what]), LOWEST[what]);
            due("it is so", x.wire(0, what), HIGHEST[what]);
            due("back", x.set(0, what, was), HIGHEST[what]);
        }
    }

    void promise6RefusesWhatIsBeyondARange() {
        for (int w = 0; w < 5; w++) {
            int what = w;
            for (int v : new int[] {LEAST, -1, LOWEST[what] - 1, HIGHEST[what] + 1, HIGHEST[what] + 256, MOST}) {
                changesNothing("set(1, " + what + ", " + v + ")", Boundary::busy, t -> t.set(1, what, v), BAD);
            }
        }
    }

    void promise6RefusesWiresThatAreNot() {
        for (int i : new int[] {LEAST, -1, 3, 7, 8, MOST}) {
            changesNothing("no such wire", Boundary::busy, t -> t.set(i, 0, 1), BAD);
        }
        laid("s8;");
        due("without wires", x.set(0, 0, 1), BAD);
        laid(EIGHT);
        due("the first of eight", x.set(0, 0, 1), 30);
        due("the last of eight", x.set(7, 4, 40), 20);
        due("no ninth", x.set(8, 0, 1), BAD);
    }

    void promise6RefusesNumbersThatAreNot() {
        for (int what : new int[] {LEAST, -1, 5, 6, 8, MOST}) {
            changesNothing("no such number", Boundary::busy, t -> t.set(0, what, 1), BAD);
        }
    }

    void promise6ToldAsItIsIsRefused() {
        for (int w = 0; w < 5; w++) {
            int what = w;
            for (int v : new int[] {LOWEST[what], HIGHEST[what]}) {
                Supplier<Trial> made = () -> {
                    Trial t = laying("s8;w30,1,30,1,20;w31,1,31,1,21;").get();
                    t.set(1, what, v);
                    return t;
                };
                changesNothing("it is so", made, t -> t.set(1, what, v), NO);
            }
        }
    }

    void promise6ChangesThisNumberOfThisWireAlone() {
        for (int what = 0; what < 5; what++) {
            laid(EIGHT);
            int was = x.wire(3, what);
            x.set(3, what, HIGHEST[what]);
            for (int i = 2; i <= 4; i++) {
                for (int other = 0; other < 5; other++) {
                    int want = other == what ? was : x.wire(0, other);
                    due("wire " + i, x.wire(i, other), i == 3 && other == what ? HIGHEST[what] : want);
                }
            }
            due("one change", x.count(9), 1);
        }
    }

    void promise6OfABondedOneLeavesItBonded() {
        for (int what = 0; what < 5; what++) {
            laid("s8;w30,1,30,1,20;");
            x.bond(0);
            x.set(0, what, HIGHEST[what]);
            due("bonded", x.wire(0, 5), 1);
            due("bonded", x.count(5), 1);
        }
    }

    // ---- 7: limit

    void promise7TakesBothEndsOfEachRange() {
        for (int which = 0; which < 3; which++) {
            fresh();
            due("the least", x.limit(which, 1), USUAL_LIMIT[which]);
            due("it is so", x.count(2 + which), 1);
            due("the most", x.limit(which, MOST_LIMIT[which]), 1);
            due("it is so", x.count(2 + which), MOST_LIMIT[which]);
            for (int l = 0; l < 3; l++) if (l != which) due("others stay", x.count(2 + l), USUAL_LIMIT[l]);
            due("two changes", x.count(9), 2);
        }
    }

    void promise7RefusesWhatIsBeyondARange() {
        for (int w = 0; w < 3; w++) {
            int which = w;
            for (int v : new int[] {LEAST, -1, 0, MOST_LIMIT[which] + 1, MOST_LIMIT[which] + 256, MOST}) {
                changesNothing("limit(" + which + ", " + v + ")", Boundary::busy, t -> t.limit(which, v), BAD);
            }
        }
    }

    void promise7RefusesLimitsThatAreNot() {
        for (int which : new int[] {LEAST, -1, 3, 4, MOST}) {
            changesNothing("no such limit", Boundary::busy, t -> t.limit(which, 1), BAD);
        }
    }

    void promise7ToldAsItIsIsRefused() {
        for (int w = 0; w < 3; w++) {
            int which = w;
            changesNothing("as laid", Trial::new, t -> t.limit(which, USUAL_LIMIT[which]), NO);
            for (int v : new int[] {1, MOST_LIMIT[which]}) {
                changesNothing("it is so", busyAnd(t -> t.limit(which, v)), t -> t.limit(which, v), NO);
            }
        }
    }

    // ---- 8: shift

    void promise8TakesBothEnds() {
        fresh();
        due("the least", x.shift(-9), ZERO);
        due("it is so", x.count(11), ZERO - 9);
        due("the most", x.shift(9), ZERO - 9);
        due("it is so", x.count(11), ZERO + 9);
        due("0", x.shift(0), ZERO + 9);
        due("it is so", x.count(11), ZERO);
        due("three changes", x.count(9), 3);
        for (int s = -9; s <= 9; s++) {
            fresh();
            due("each of them", x.shift(s), s == 0 ? NO : ZERO);
            due("each of them", x.count(11), ZERO + s);
        }
    }

    void promise8RefusesWhatIsBeyond() {
        for (int s : new int[] {LEAST, -11, -10, 10, 11, ZERO, MOST}) {
            changesNothing("shift(" + s + ")", Boundary::busy, t -> t.shift(s), BAD);
        }
    }

    void promise8ToldAsItIsIsRefused() {
        changesNothing("0 when laid", Trial::new, t -> t.shift(0), NO);
        for (int s : new int[] {-9, 0, 9}) {
            changesNothing("it is so", busyAnd(t -> t.shift(s)), t -> t.shift(s), NO);
        }
    }

    void promise8PadsMayStandBelow0AndAbove60() {
        laid("s8;w0,0,30,0,1;w60,0,30,0,1;");
        x.shift(-9);
        due("below 0", x.place(0, 0), ZERO - 72);
        due("the number of the pad stays", x.wire(0, 0), 0);
        due("the finger stays", x.place(0, 8), ZERO + 240);
        x.shift(9);
        due("above 60", x.place(1, 0), ZERO + 69 * 8);
        due("the number of the pad stays", x.wire(1, 0), 60);
        due("a pad's range is that of its number", x.set(1, 0, 61), BAD);
        due("a pad's range is that of its number", x.set(1, 0, 0), 60);
    }

    // ---- 9: undo

    void promise9NothingToUndoIsRefused() {
        changesNothing("a new one", Trial::new, Trial::undo, NO);
        changesNothing("laid", laying(FIRST), Trial::undo, NO);
        changesNothing("laid behind changes", busyAnd(Trial::lay), Trial::undo, NO);
        changesNothing("all undone", busyAnd(ToldBoundaryTests::undoSix), Trial::undo, NO);
        changesNothing("all undone that can be, earlier changes stay", () -> {
            Trial t = laying("s8;t1;w0,0,0,0,1;w30,0,30,0,9;").get();
            t.bond(1);
            t.shift(-9);
            t.limit(0, 9);
            t.set(0, 0, 60);
            t.eye(0, 0, 0, 0, 1);
            for (int v = 1; v <= 6; v++) t.set(1, 2, v);
            return t.wire(1, 5) == 1 && undoSix(t) == 0 ? t : null;
        }, Trial::undo, NO);
    }

    private static int undoSix(Trial t) {
        int more = 6;
        for (int undone = 0; undone < 6; undone++) more = t.undo();
        return more;
    }

    void promise9TheSixthCanBeUndoneAndTheSeventhCanNot() {
        for (int changes = 0; changes <= 20; changes++) {
            laid("s8;w0,0,0,0,1;");
            for (int v = 1; v <= changes; v++) due("a change", x.set(0, 0, v), v - 1);
            int can = Math.min(changes, 6);
            due("how many can be", x.count(9), can);
            for (int more = can - 1; more >= 0; more--) {
                due("how many more", x.undo(), more);
                due("how many more", x.count(9), more);
                due("as ahead of it", x.wire(0, 0), changes - can + more);
            }
            due("no more", x.undo(), NO);
            due("it stands", x.wire(0, 0), changes - can);
        }
    }

    /** The pad of wire 0 told anew so often, then undone so often, and so on; held against a list. */
    private void changesAndUndos(int... turns) {
        laid("s8;w0,0,0,0,1;");
        List<Integer> past = new ArrayList<>();
        int pad = 0;
        int next = 1;
        for (int turn = 0; turn < turns.length; turn++) {
            for (int n = 0; n < turns[turn]; n++) {
                if (turn % 2 == 0) {
                    due("change", x.set(0, 0, next), pad);
                    past.add(pad);
                    if (past.size() > 6) past.remove(0);
                    pad = next++;
                } else {
                    due("undo", x.undo(), past.isEmpty() ? NO : past.size() - 1);
                    if (!past.isEmpty()) pad = past.remove(past.size() - 1);
                }
                due("the pad", x.wire(0, 0), pad);
                due("how many can be", x.count(9), past.size());
            }
        }
    }

    void promise9GoesRoundAndRound() {
        for (int first = 0; first <= 13; first++) {
            for (int undone = 0; undone <= 7; undone++) {
                for (int again : new int[] {1, 5, 6, 7}) changesAndUndos(first, undone, again, 7);
            }
        }
        changesAndUndos(3, 1, 3, 2, 4, 3, 5, 4, 6, 5, 7, 7);
    }

    private void undone(String what, Supplier<Trial> made, ToIntFunction<Trial> change) {
        alike(what, made, () -> {
            Trial t = made.get();
            x = t;
            int ahead = t.count(9);
            due(what + " is a change", change.applyAsInt(t) >= 0 ? 1 : 0, 1);
            due(what + " is one change", t.count(9), ahead + 1);
            due(what + " undone", t.undo(), ahead);
            return t;
        });
    }

    void promise9EachKindOfChangeIsUndone() {
        Supplier<Trial> made = () -> {
            Trial t = laying("s8;t1;g1;w0,0,0,0,9;w4,0,4,0,9;w40,1,40,1,5;").get();
            t.bond(0);
            t.eye(1, 0, 0, 19, 17);
            t.shift(-3);
            return t;
        };
        for (int w = 0; w < 5; w++) {
            int what = w;
            undone("set " + what, made, t -> t.set(1, what, 2));
        }
        for (int l = 0; l < 3; l++) {
            int which = l;
            undone("limit " + which, made, t -> t.limit(which, 8));
        }
        undone("shift", made, t -> t.shift(4));
        undone("shift", made, t -> t.shift(0));
        undone("bond", made, t -> t.bond(2));
        undone("take", made, t -> t.take(0));
        undone("mend", made, t -> t.mend(1));
    }

    void promise9UndoIsNoChange() {
        laid("s8;w0,0,0,0,1;");
        x.set(0, 0, 5);
        x.set(0, 0, 6);
        due("the latest", x.undo(), 1);
        due("the one ahead of it, not the undo", x.undo(), 0);
        due("the pad", x.wire(0, 0), 0);
        due("nothing comes back", x.undo(), NO);
        due("the pad", x.wire(0, 0), 0);
    }

    void promise9RefusedCallsAndQuestionsAreNoChanges() {
        laid("s8;w0,0,0,0,1;w30,0,30,0,1;");
        for (int v = 1; v <= 6; v++) x.set(0, 0, v);
        x.set(0, 0, 6);
        x.set(0, 0, 61);
        x.limit(0, 2);
        x.limit(0, 0);
        x.shift(0);
        x.shift(10);
        x.take(0);
        x.bond(2);
        x.mend(1);
        x.mend(2);
        x.loop(1);
        x.write('x');
        x.fault();
        x.lay();
        x.wipe();
        x.eye(0, 0, 0, 0, 1);
        x.forget();
        due("six still", x.count(9), 6);
        for (int more = 5; more >= 0; more--) {
            due("undo", x.undo(), more);
            due("the pad", x.wire(0, 0), more);
        }
    }

    void promise9SightsAndTheTextStay() {
        laid("s8;w10,0,0,0,1;");
        x.shift(2);
        x.eye(0, 0, 12, 12, 1);
        x.eye(1, 0, 11, 11, 0);
        x.write('g');
        due("undo", x.undo(), 0);
        due("one letter more", x.count(10), 16);
        due("its fault", x.fault(), 15);
        due("the shift that explains", x.explains(0), 1);
        due("the shift that explains", x.explains(1), ZERO + 2);
        due("both eyes", x.forget(), 2);
    }

    void promise9AnswersAreOfWhatIsThen() {
        laid("s8;t1;g1;w0,0,0,0,9;w4,0,4,0,9;");
        x.set(1, 4, 1);
        due("one way", x.count(8), 1);
        due("an order", x.orders(), 1);
        due("undo", x.undo(), 0);
        due("both ways", x.count(8), 2);
        due("no order", x.orders(), 0);
        due("stuck", x.stuck(), 3);
        due("height", x.height(1, 1), 9);
        x.shift(9);
        x.undo();
        due("place", x.place(0, 0), ZERO);
        due("seen", x.sees(0, 0, 4), 17);
    }

    public static void main(String[] args) {
        new ToldBoundaryTests().runAll(1, 9);
    }
}
