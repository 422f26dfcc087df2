/** Boundary cases of promises 1 to 6: a new object, the text of RUNNERS, its FAULT, what it tells of each. */
final class EdgesOfText {
    private static final int BAD = StickRelay.BAD, NOT = StickRelay.NOT, FULL = StickRelay.FULL, NONE = StickRelay.NONE;
    private static final int LEAST = Integer.MIN_VALUE, MOST = Integer.MAX_VALUE;
    private static final String ONE = "101853";

    private EdgesOfText() {
    }

    private static void fault(Check is, String text, int due) {
        is.due("fault() of " + text, Relays.typed(text).fault(), due);
    }

    private static void runners(Check is, String text, int due) {
        is.due("count(0) of " + text, Relays.typed(text).count(0), due);
    }

    /** Well, and as many as told. */
    private static void well(Check is, String text, int due) {
        fault(is, text, NONE);
        runners(is, text, due);
    }

    private static StickRelay full() {
        StickRelay x = new StickRelay();
        for (int i = 0; i < 40; i++) x.type('1');
        return x;
    }

    // ---- 1: a new object

    @Edge(promise = 1, says = "Nobody; all SHEETS are LOST.")
    static void nobodyIsThere(Check is) {
        StickRelay x = new StickRelay();
        is.due("count(0)", x.count(0), 0);
        is.due("count(1)", x.count(1), 0);
        is.due("runner(0, 0)", x.runner(0, 0), BAD);
        is.due("time()", x.time(), NOT);
    }

    @Edge(promise = 1, says = "SHEETS 0 .. 3 are LOST (at first)")
    static void eachOfTheFourSheetsIsLost(Check is) {
        for (int s = 0; s < 4; s++) {
            StickRelay x = new StickRelay();
            is.due("lose(" + s + ")", x.lose(s), -11);
            is.due("count(8)", x.count(8), 1);
        }
    }

    @Edge(promise = 1, says = "who RUNS each (0 to 4; 0, 1, 2, 3 at first;")
    static void whoRunsAtFirst(Check is) {
        StickRelay x = new StickRelay();
        for (int stretch = 0; stretch < 4; stretch++) is.due("runs(" + stretch + ", 4)", x.runs(stretch, 4), stretch);
    }

    @Edge(promise = 1, says = "ZONE (5 to 30 yards; 20 at first), REACH (0 to 5; 1 at first), LAG (0 to 99 hundredths; 20 at first), "
        + "TIRE, BEND (0 to 9 hundredths; 0 at first), BUMP (0 to 99; 30 at first), STEP (0 to 30; 5 at first)")
    static void rulesAtFirst(Check is) {
        StickRelay x = new StickRelay();
        int[] rules = {20, 1, 20, 0, 0, 30, 5};
        for (int what = 0; what < rules.length; what++) is.due("set(" + what + ", 5)", x.set(what, 5), rules[what]);
    }

    @Edge(promise = 1, says = "has a MARK (0 to 40 yards; 8 at first) and a SLIP (-60 to 60 hundredths; 0 at first)")
    static void marksAndSlipsAtFirst(Check is) {
        StickRelay x = new StickRelay();
        for (int change = 0; change < 3; change++) {
            is.due("count(" + (3 + change) + ")", x.count(3 + change), 8);
            is.due("mark(" + change + ", 1)", x.mark(change, 1), 8);
            is.due("slip(" + change + ", 1)", x.slip(change, 1), 0);
        }
    }

    @Edge(promise = 1, says = "(0 before any)")
    static void noFindingAtFirst(Check is) {
        is.due("count(8)", new StickRelay().count(8), 0);
    }

    @Edge(promise = 1, says = "Nobody; all SHEETS are LOST.")
    static void oneObjectKnowsNothingOfAnother(Check is) {
        StickRelay x = Whole.rich();
        is.holds("a new one is as any new one", Whole.of(new StickRelay()).equals(Whole.of(new StickRelay())));
        is.holds("the first one is as it was", Whole.of(x).equals(Whole.of(Whole.rich())));
        is.due("a new one's count(1)", new StickRelay().count(1), 0);
    }

    // ---- 2: type

    @Edge(promise = 2, says = "A byte (0 to 255) comes behind RUNNERS: how many.")
    static void theLeastByteIsTaken(Check is) {
        is.due("type(0)", new StickRelay().type(0), 1);
    }

    @Edge(promise = 2, says = "A byte (0 to 255) comes behind RUNNERS: how many.")
    static void theGreatestByteIsTaken(Check is) {
        is.due("type(255)", new StickRelay().type(255), 1);
    }

    @Edge(promise = 2, says = "A byte (0 to 255) comes behind RUNNERS: how many. BAD;")
    static void belowTheLeastByteIsBad(Check is) {
        StickRelay x = new StickRelay();
        int[] low = {-1, -128, -256, LEAST};
        for (int b : low) is.due("type(" + b + ")", x.type(b), BAD);
        is.due("count(1)", x.count(1), 0);
    }

    @Edge(promise = 2, says = "A byte (0 to 255) comes behind RUNNERS: how many. BAD;")
    static void aboveTheGreatestByteIsBad(Check is) {
        StickRelay x = new StickRelay();
        int[] high = {256, 256 + '1', 65536, MOST};
        for (int b : high) is.due("type(" + b + ")", x.type(b), BAD);
        is.due("count(1)", x.count(1), 0);
    }

    @Edge(promise = 2, says = "RUNNERS are a text of up to 40 bytes")
    static void the40thByteIsTaken(Check is) {
        StickRelay x = new StickRelay();
        for (int n = 1; n <= 40; n++) is.due("type('1')", x.type('1'), n);
        is.due("count(1)", x.count(1), 40);
    }

    @Edge(promise = 2, says = "BAD; FULL.")
    static void the41stByteIsFull(Check is) {
        StickRelay x = full();
        is.due("type('1')", x.type('1'), FULL);
        is.due("type(0)", x.type(0), FULL);
        is.due("type(255)", x.type(255), FULL);
        is.due("count(1)", x.count(1), 40);
    }

    @Edge(promise = 2, says = "BAD; FULL.")
    static void badGoesAheadOfFull(Check is) {
        is.due("type(256)", full().type(256), BAD);
        is.due("type(-1)", full().type(-1), BAD);
    }

    @Edge(promise = 2, says = "BAD; FULL.")
    static void fullNoMoreBehindUndoOrWipe(Check is) {
        StickRelay x = full();
        x.undo();
        is.due("type('1')", x.type('1'), 40);
        is.due("type('1')", x.type('1'), FULL);
        x.wipe();
        is.due("type('1')", x.type('1'), 1);
    }

    // ---- 3: wipe

    @Edge(promise = 3, says = "RUNNERS are empty: how many bytes they had.")
    static void wipeOfNoneIs0(Check is) {
        StickRelay x = new StickRelay();
        is.due("wipe()", x.wipe(), 0);
        is.due("wipe()", x.wipe(), 0);
        is.due("fault()", x.fault(), NONE);
    }

    @Edge(promise = 3, says = "RUNNERS are empty: how many bytes they had.")
    static void wipeOfAFullTextIs40(Check is) {
        StickRelay x = full();
        is.due("wipe()", x.wipe(), 40);
        is.due("count(1)", x.count(1), 0);
        is.due("undo()", x.undo(), NOT);
    }

    @Edge(promise = 3, says = "RUNNERS are empty: how many bytes they had.")
    static void wipeTakesTheFaultAndAllRunners(Check is) {
        StickRelay x = Relays.typed("x");
        is.due("wipe()", x.wipe(), 1);
        is.due("fault()", x.fault(), NONE);
        StickRelay y = Relays.typed(Relays.times(5, ONE));
        is.due("wipe()", y.wipe(), 34);
        is.due("count(0)", y.count(0), 0);
        is.due("runner(0, 0)", y.runner(0, 0), BAD);
    }

    @Edge(promise = 3, says = "RUNNERS are empty: how many bytes they had.")
    static void wipeLeavesAllElse(Check is) {
        StickRelay x = Whole.rich();
        is.due("wipe()", x.wipe(), 34);
        Relays.type(x, "101853;111951;091852;102043;121653");
        is.holds("typed again, all is as before", Whole.of(x).equals(Whole.of(Whole.rich())));
    }

    // ---- 4: undo

    @Edge(promise = 4, says = "NOT: there is none.")
    static void undoOfNoneIsNot(Check is) {
        StickRelay x = new StickRelay();
        is.due("undo()", x.undo(), NOT);
        is.due("undo()", x.undo(), NOT);
        is.due("count(1)", x.count(1), 0);
        is.due("type('1')", x.type('1'), 1);
    }

    @Edge(promise = 4, says = "The last byte of RUNNERS is undone: how many are left.")
    static void undoOfTheOnlyByteLeaves0(Check is) {
        StickRelay x = Relays.typed("x");
        is.due("undo()", x.undo(), 0);
        is.due("fault()", x.fault(), NONE);
        is.due("undo()", x.undo(), NOT);
    }

    @Edge(promise = 4, says = "The last byte of RUNNERS is undone: how many are left.")
    static void undoOfTheFullTextLeaves39(Check is) {
        StickRelay x = full();
        for (int left = 39; left >= 0; left--) is.due("undo()", x.undo(), left);
    }

    @Edge(promise = 4, says = "The last byte of RUNNERS is undone: how many are left.")
    static void undoMendsTheFaultOfASixth(Check is) {
        StickRelay x = Relays.typed(Relays.times(5, ONE) + ";1");
        is.due("undo()", x.undo(), 35);
        is.due("fault()", x.fault(), 35);
        is.due("undo()", x.undo(), 34);
        is.due("fault()", x.fault(), NONE);
        is.due("count(0)", x.count(0), 5);
        is.due("undo()", x.undo(), 33);
        is.due("count(0)", x.count(0), 0);
    }

    // ---- 5: fault

    @Edge(promise = 5, says = "(an empty text is well;")
    static void anEmptyTextIsWell(Check is) {
        well(is, "", 0);
        StickRelay wiped = Relays.typed("x");
        wiped.wipe();
        is.due("fault() of a wiped one", wiped.fault(), NONE);
        StickRelay undone = Relays.typed("1");
        undone.undo();
        is.due("fault() of an undone one", undone.fault(), NONE);
    }

    @Edge(promise = 5, says = "of one that is not ended, as behind a ;, its end")
    static void theEndOfOneThatIsNotEnded(Check is) {
        for (int length = 1; length < 6; length++) {
            fault(is, ONE.substring(0, length), length);
            fault(is, ONE + ";" + ONE.substring(0, length), 7 + length);
        }
    }

    @Edge(promise = 5, says = "of one that is not ended, as behind a ;, its end")
    static void theEndBehindASemicolon(Check is) {
        for (int n = 1; n <= 4; n++) fault(is, Relays.times(n, ONE) + ";", 7 * n);
    }

    @Edge(promise = 5, says = "six figures for each with ; between them")
    static void aSeventhFigureIsTheFault(Check is) {
        fault(is, ONE + "1", 6);
        fault(is, ONE + ";" + ONE + "0", 13);
    }

    @Edge(promise = 5, says = "six figures for each with ; between them")
    static void aSemicolonTooEarlyIsTheFault(Check is) {
        for (int length = 0; length < 6; length++) fault(is, ONE.substring(0, length) + ";", length);
        fault(is, ONE + ";;", 7);
    }

    @Edge(promise = 5, says = "six figures for each with ; between them")
    static void anythingElseThanASemicolonIsTheFault(Check is) {
        char[] others = {':', '<', ',', ' ', '0', (char) 0, (char) 187, (char) 255};
        for (char other : others) fault(is, ONE + other + ONE, 6);
    }

    @Edge(promise = 5, says = "the place of the first byte with which it cannot go on")
    static void theBytesBesideTheFiguresAreFaults(Check is) {
        char[] others = {'/', ':', (char) 0, (char) ('1' + 128), (char) 255};
        for (int place = 0; place < 6; place++) {
            for (char other : others) fault(is, ONE.substring(0, place) + other + ONE.substring(place + 1), place);
        }
    }

    @Edge(promise = 5, says = "the place of the first byte with which it cannot go on")
    static void theFirstOfSeveralFaultsIsTold(Check is) {
        fault(is, "x00y", 0);
        fault(is, "10x853;000000", 2);
        fault(is, ONE + ";009900;x", 8);
        fault(is, "0099", 1);
    }

    @Edge(promise = 5, says = "FULL (01 to 99)")
    static void theLeastAndTheGreatestFullAreWell(Check is) {
        well(is, "010101", 1);
        well(is, "999901", 1);
        well(is, "101001", 1);
        well(is, "090901", 1);
    }

    @Edge(promise = 5, says = "of the second figure of a FULL of 00")
    static void fullOf00(Check is) {
        fault(is, "0", 1);
        fault(is, "00", 1);
        fault(is, "009953", 1);
        fault(is, ONE + ";009953", 8);
        fault(is, "01", 2);
    }

    @Edge(promise = 5, says = "SLOW (no less than FULL, up to 99)")
    static void slowLikeFullIsWell(Check is) {
        well(is, "202001", 1);
        well(is, "292901", 1);
        well(is, "010101", 1);
    }

    @Edge(promise = 5, says = "SLOW (no less than FULL, up to 99)")
    static void theGreatestSlowIsWell(Check is) {
        well(is, "019901", 1);
        well(is, "999901", 1);
    }

    @Edge(promise = 5, says = "of the second figure of a FULL of 00 or of a SLOW less than FULL")
    static void slowOneLessThanFull(Check is) {
        fault(is, "2019", 3);
        fault(is, "201953", 3);
        fault(is, "3029", 3);
        fault(is, "9998", 3);
        fault(is, "0100", 3);
        fault(is, ONE + ";201953", 10);
    }

    @Edge(promise = 5, says = "of the second figure of a FULL of 00 or of a SLOW less than FULL")
    static void slowThatCanBeLessOnlyByItsFirstFigure(Check is) {
        fault(is, "201", 3);
        fault(is, "990", 3);
        fault(is, "990x", 3);
    }

    @Edge(promise = 5, says = "RISE (0 to 9)")
    static void theLeastAndTheGreatestRiseAreWell(Check is) {
        well(is, "101803", 1);
        well(is, "101893", 1);
    }

    @Edge(promise = 5, says = "HANDS (1 left, 2 right, 3 both)")
    static void theLeastAndTheGreatestHandsAreWell(Check is) {
        for (int hands = 1; hands <= 3; hands++) well(is, "10185" + hands, 1);
    }

    @Edge(promise = 5, says = "HANDS (1 left, 2 right, 3 both)")
    static void hands0And4AreFaults(Check is) {
        fault(is, "101850", 5);
        fault(is, "101854", 5);
        fault(is, "101859", 5);
        fault(is, ONE + ";101850", 12);
    }

    @Edge(promise = 5, says = "5 at most (0 on)")
    static void fiveAreWell(Check is) {
        for (int n = 1; n <= 5; n++) well(is, Relays.times(n, ONE), n);
    }

    @Edge(promise = 5, says = "or of the first byte of a sixth")
    static void theFirstByteOfASixth(Check is) {
        String five = Relays.times(5, ONE);
        String[] sixths = {"1", "0", ";", "x", "10185"};
        for (String sixth : sixths) fault(is, five + ";" + sixth, 35);
        fault(is, five + ";", 35);
    }

    @Edge(promise = 5, says = "or of the first byte of a sixth")
    static void aFaultBehindTheFifthIsNoneOfASixth(Check is) {
        fault(is, Relays.times(5, ONE) + "1", 34);
        fault(is, Relays.times(5, ONE) + "x", 34);
    }

    @Edge(promise = 5, says = "With a FAULT there is nobody.")
    static void withAFaultThereIsNobody(Check is) {
        String four = Relays.times(4, ONE);
        String[] faulty = {four + ";", four + "1", four + ";1", four + ";10185", Relays.times(5, ONE) + ";", "1", "10185"};
        for (String text : faulty) {
            StickRelay x = Relays.typed(text);
            is.due("count(0) of " + text, x.count(0), 0);
            is.due("runner(0, 0) of " + text, x.runner(0, 0), BAD);
            is.due("takes(0, 0, 0) of " + text, x.takes(0, 0, 0), BAD);
            is.due("time() of " + text, x.time(), NOT);
            is.due("order(-1, 0) of " + text, x.order(-1, 0), NONE);
        }
    }

    @Edge(promise = 5, says = "The FAULT; NONE.")
    static void theFaultOfAFullText(Check is) {
        is.due("fault()", full().fault(), 6);
        fault(is, Relays.times(5, ONE) + ";10185", 35);
    }

    // ---- 6: runner

    @Edge(promise = 6, says = "Of one of the RUNNERS: FULL (what = 0), SLOW (1), RISE (2), HANDS (3).")
    static void theLeastFigures(Check is) {
        int[] due = {1, 1, 0, 1};
        for (int what = 0; what < 4; what++) is.due("runner(0, " + what + ")", Relays.typed("010101").runner(0, what), due[what]);
    }

    @Edge(promise = 6, says = "Of one of the RUNNERS: FULL (what = 0), SLOW (1), RISE (2), HANDS (3).")
    static void theGreatestFigures(Check is) {
        int[] due = {99, 99, 9, 3};
        for (int what = 0; what < 4; what++) is.due("runner(0, " + what + ")", Relays.typed("999993").runner(0, what), due[what]);
    }

    @Edge(promise = 6, says = "5 at most (0 on)")
    static void theFirstAndTheFifth(Check is) {
        StickRelay x = Relays.typed("010201;111953;091852;102043;343652");
        int[] first = {1, 2, 0, 1};
        int[] fifth = {34, 36, 5, 2};
        for (int what = 0; what < 4; what++) {
            is.due("runner(0, " + what + ")", x.runner(0, what), first[what]);
            is.due("runner(4, " + what + ")", x.runner(4, what), fifth[what]);
        }
    }

    @Edge(promise = 6, says = "HANDS (3). BAD.")
    static void oneBelowTheFirstIsBad(Check is) {
        StickRelay x = Relays.typed(Relays.times(5, ONE));
        is.due("runner(-1, 0)", x.runner(-1, 0), BAD);
        is.due("runner(least, 0)", x.runner(LEAST, 0), BAD);
    }

    @Edge(promise = 6, says = "HANDS (3). BAD.")
    static void oneBehindTheLastIsBad(Check is) {
        for (int n = 0; n <= 5; n++) {
            StickRelay x = Relays.typed(Relays.times(n, ONE));
            is.due("runner(" + n + ", 0) of " + n, x.runner(n, 0), BAD);
            is.due("runner(greatest, 0) of " + n, x.runner(MOST, 0), BAD);
        }
    }

    @Edge(promise = 6, says = "HANDS (3). BAD.")
    static void whatBelow0OrAbove3IsBad(Check is) {
        StickRelay x = Relays.typed(ONE);
        int[] whats = {-1, 4, LEAST, MOST};
        for (int what : whats) is.due("runner(0, " + what + ")", x.runner(0, what), BAD);
    }

    @Edge(promise = 6, says = "With a FAULT there is nobody.")
    static void whoWasThereAheadOfTheFaultIsBad(Check is) {
        StickRelay x = Relays.typed(Relays.times(4, ONE));
        is.due("runner(3, 3)", x.runner(3, 3), 3);
        x.type(';');
        is.due("runner(3, 3)", x.runner(3, 3), BAD);
        x.undo();
        is.due("runner(3, 3)", x.runner(3, 3), 3);
    }
}
