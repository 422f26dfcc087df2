/**
 * Boundary cases of promises 18 to 22: odds, MARKS, orders.
 * By STEP 5 four of Relays.RISING are OUT from MARKS of 19, 19, 20, 20, 21 on, by SLIPS of -2 to 2 times STEP.
 */
final class EdgesOfOdds {
    private static final int BAD = StickRelay.BAD, NOT = StickRelay.NOT, NONE = StickRelay.NONE;
    private static final int ZONE = 0, REACH = 1, LAG = 2, BEND = 4, BUMP = 5, STEP = 6;
    private static final int LEAST = Integer.MIN_VALUE, MOST = Integer.MAX_VALUE;
    private static final int[] NO_CHANGES = {-1, 3, LEAST, MOST};

    private EdgesOfOdds() {
    }

    private static StickRelay marked(int first, int second, int third) {
        StickRelay x = Relays.ofRising();
        Relays.marks(x, first, second, third);
        return x;
    }

    private static void chances(Check is, String when, StickRelay x, int due) {
        for (int change = 0; change < 3; change++) is.due("chance(" + change + ") " + when, x.chance(change), due);
    }

    private static void fraction(Check is, StickRelay x, long above, long below) {
        is.due("all(0)", x.all(0), above);
        is.due("all(1)", x.all(1), below);
    }

    /** Without REACH and LAG, of like ones, none is ahead at any yard: there is room for no MARK but 0. */
    private static StickRelay withoutRoom() {
        StickRelay x = Relays.typed(Relays.times(4, "010103"));
        x.set(REACH, 0);
        x.set(LAG, 0);
        return x;
    }

    /** Who comes is ever so quick, who goes ever so slow. */
    private static StickRelay withRoomForAll() {
        StickRelay x = Relays.typed("010103;019993;019993;019993");
        x.set(ZONE, 30);
        return x;
    }

    private static void orders(Check is, StickRelay x, int without, int... due) {
        for (int what = 0; what < 8; what++) is.due("order(" + without + ", " + what + ")", x.order(without, what), due[what]);
    }

    private static void noOrder(Check is, StickRelay x, int without) {
        orders(is, x, without, NONE, NONE, NONE, NONE, NONE, NONE, NONE, NONE);
    }

    /** As many of Relays.RISING as there are HANDS told. */
    private static StickRelay handed(String hands) {
        StringBuilder text = new StringBuilder();
        for (int i = 0; i < hands.length(); i++) text.append(i == 0 ? "" : ";").append("10185").append(hands.charAt(i));
        return Relays.typed(text.toString());
    }

    // ---- 18: chance

    @Edge(promise = 18, says = "CHANCE that it is not OUT, in sixteenths")
    static void noneAndAllOf16(Check is) {
        chances(is, "by MARK 0", marked(0, 0, 0), 16);
        chances(is, "by MARK 18", marked(18, 18, 18), 16);
        chances(is, "by MARK 21", marked(21, 21, 21), 0);
        chances(is, "by MARK 40", marked(40, 40, 40), 0);
    }

    @Edge(promise = 18, says = "a SLIP of -2, -1, 0, 1, 2 times STEP (whatever is told) in 1, 4, 6, 4, 1 of 16")
    static void eachShareOf16(Check is) {
        chances(is, "by MARK 19", marked(19, 19, 19), 11);
        chances(is, "by MARK 20", marked(20, 20, 20), 1);
        StickRelay x = marked(19, 19, 19);
        x.set(LAG, 25);
        chances(is, "by LAG 25", x, 15);
        x.set(LAG, 15);
        chances(is, "by LAG 15", x, 5);
        x.set(LAG, 30);
        chances(is, "by LAG 30", x, 16);
        x.set(LAG, 10);
        chances(is, "by LAG 10", x, 1);
        x.set(LAG, 9);
        chances(is, "by LAG 9", x, 0);
    }

    @Edge(promise = 18, says = "a SLIP of -2, -1, 0, 1, 2 times STEP (whatever is told)")
    static void whateverSlipIsTold(Check is) {
        int[] slips = {-60, 60};
        for (int slip : slips) {
            StickRelay x = marked(19, 19, 19);
            for (int change = 0; change < 3; change++) x.slip(change, slip);
            chances(is, "by a told SLIP of " + slip, x, 11);
        }
    }

    @Edge(promise = 18, says = "STEP (0 to 30;")
    static void theLeastStepLeavesAllOrNone(Check is) {
        StickRelay x = marked(19, 19, 19);
        x.set(STEP, 0);
        chances(is, "by STEP 0", x, 16);
        Relays.marks(x, 20, 20, 20);
        chances(is, "by STEP 0", x, 0);
    }

    @Edge(promise = 18, says = "STEP (0 to 30;")
    static void theGreatestStep(Check is) {
        int[][] due = {{17, 16}, {18, 11}, {19, 11}, {20, 5}, {22, 5}, {23, 1}, {25, 1}, {26, 0}};
        for (int[] row : due) {
            StickRelay x = marked(row[0], row[0], row[0]);
            x.set(STEP, 30);
            chances(is, "by STEP 30 and MARK " + row[0], x, row[1]);
        }
    }

    @Edge(promise = 18, says = "goes off LAG and SLIP (0 at least together)")
    static void lagAndStepsTogetherBelow0Are0(Check is) {
        int[][] due = {{17, 16}, {18, 5}, {20, 5}, {21, 1}, {23, 1}, {24, 0}};
        for (int[] row : due) {
            StickRelay x = marked(row[0], row[0], row[0]);
            x.set(STEP, 30);
            x.set(LAG, 0);
            chances(is, "by STEP 30, LAG 0 and MARK " + row[0], x, row[1]);
        }
    }

    @Edge(promise = 18, says = "CHANCE that it is not OUT, in sixteenths")
    static void whoIsBumpedIsNotOut(Check is) {
        StickRelay x = Relays.ofEven();
        Relays.marks(x, 2, 2, 2);
        is.due("kind(0)", x.kind(0), 2);
        chances(is, "BUMPED by each SLIP", x, 16);
    }

    @Edge(promise = 18, says = "CHANCE of a CHANGE, in sixteenths. BAD; NOT.")
    static void aChangeBelow0OrAbove2IsBad_chance(Check is) {
        for (int change : NO_CHANGES) is.due("chance(" + change + ")", Relays.ofRising().chance(change), BAD);
    }

    @Edge(promise = 18, says = "CHANCE of a CHANGE, in sixteenths. BAD; NOT.")
    static void badGoesAheadOfNot_chance(Check is) {
        is.due("chance(3)", new StickRelay().chance(3), BAD);
        is.due("chance(0)", new StickRelay().chance(0), NOT);
    }

    @Edge(promise = 18, says = "somebody who RUNS is not there")
    static void whoeverIsNotThere_chance(Check is) {
        for (StickRelay x : Relays.lacking()) chances(is, "lacking one", x, NOT);
    }

    // ---- 19: all

    @Edge(promise = 19, says = "FRACTIONS are told in lowest terms, above and below (0 by 1).")
    static void noneIs0By1(Check is) {
        fraction(is, marked(21, 8, 8), 0, 1);
        fraction(is, marked(8, 21, 8), 0, 1);
        fraction(is, marked(20, 20, 21), 0, 1);
        fraction(is, marked(40, 40, 40), 0, 1);
    }

    @Edge(promise = 19, says = "FRACTIONS are told in lowest terms, above and below (0 by 1).")
    static void allAre1By1(Check is) {
        fraction(is, marked(8, 8, 8), 1, 1);
        fraction(is, marked(18, 18, 18), 1, 1);
    }

    @Edge(promise = 19, says = "of all three together: a FRACTION")
    static void theLeastOfAllIs1By4096(Check is) {
        fraction(is, marked(20, 20, 20), 1, 4096);
    }

    @Edge(promise = 19, says = "FRACTIONS are told in lowest terms, above and below (0 by 1).")
    static void lowestTerms(Check is) {
        fraction(is, marked(19, 8, 8), 11, 16);
        fraction(is, marked(8, 8, 20), 1, 16);
        fraction(is, marked(8, 20, 19), 11, 256);
        fraction(is, marked(19, 19, 19), 1331, 4096);
        StickRelay x = marked(19, 19, 19);
        x.set(LAG, 25);
        fraction(is, x, 3375, 4096);
    }

    @Edge(promise = 19, says = "CHANCE of all: above, below. BAD; NOT. (As the least long and x more.)")
    static void whatBelow0OrAbove1IsBad(Check is) {
        int[] whats = {-1, 2, LEAST, MOST};
        for (int what : whats) is.due("all(" + what + ")", Relays.ofRising().all(what), Long.MIN_VALUE + 2);
    }

    @Edge(promise = 19, says = "Where the answer is a long, a refusal -x is the least long and x more")
    static void whoeverIsNotThere_all(Check is) {
        for (StickRelay x : Relays.lacking()) fraction(is, x, Long.MIN_VALUE + 3, Long.MIN_VALUE + 3);
    }

    @Edge(promise = 19, says = "CHANCE of all: above, below. BAD; NOT.")
    static void badGoesAheadOfNot_all(Check is) {
        is.due("all(2)", new StickRelay().all(2), Long.MIN_VALUE + 2);
        is.due("all(1)", new StickRelay().all(1), Long.MIN_VALUE + 3);
    }

    // ---- 20: safe

    private static void safe(Check is, StickRelay x, int k, int due) {
        for (int change = 0; change < 3; change++) is.due("safe(" + change + ", " + k + ")", x.safe(change, k), due);
    }

    @Edge(promise = 20, says = "the greatest MARK (0 to 40) with a CHANCE of k sixteenths (0 to 16) or more")
    static void ofK0EachMarkIsSafe(Check is) {
        safe(is, Relays.ofRising(), 0, 40);
        safe(is, withoutRoom(), 0, 40);
    }

    @Edge(promise = 20, says = "the greatest MARK (0 to 40) with a CHANCE of k sixteenths (0 to 16) or more")
    static void ofK16AllOfThem(Check is) {
        safe(is, Relays.ofRising(), 16, 18);
    }

    @Edge(promise = 20, says = "with a CHANCE of k sixteenths (0 to 16) or more")
    static void justKOrMore(Check is) {
        int[][] due = {{12, 18}, {11, 19}, {10, 19}, {2, 19}, {1, 20}};
        for (int[] row : due) safe(is, Relays.ofRising(), row[0], row[1]);
        StickRelay x = Relays.ofRising();
        x.set(LAG, 25);
        int[][] later = {{16, 18}, {15, 19}, {6, 19}, {5, 20}, {1, 20}};
        for (int[] row : later) safe(is, x, row[0], row[1]);
    }

    @Edge(promise = 20, says = "the greatest MARK (0 to 40)")
    static void theLeastMarkOfAll(Check is) {
        safe(is, withoutRoom(), 16, 0);
        safe(is, withoutRoom(), 6, 0);
        safe(is, withoutRoom(), 5, 5);
        safe(is, withoutRoom(), 1, 10);
    }

    @Edge(promise = 20, says = "the greatest MARK (0 to 40)")
    static void theGreatestMarkOfAll(Check is) {
        is.due("safe(0, 16)", withRoomForAll().safe(0, 16), 40);
    }

    @Edge(promise = 20, says = "SAFE; NONE. BAD; NOT.")
    static void kBelow0OrAbove16IsBad(Check is) {
        int[] beyond = {-1, 17, LEAST, MOST};
        for (int k : beyond) is.due("safe(0, " + k + ")", Relays.ofRising().safe(0, k), BAD);
    }

    @Edge(promise = 20, says = "SAFE; NONE. BAD; NOT.")
    static void aChangeBelow0OrAbove2IsBad_safe(Check is) {
        for (int change : NO_CHANGES) is.due("safe(" + change + ", 8)", Relays.ofRising().safe(change, 8), BAD);
    }

    @Edge(promise = 20, says = "SAFE; NONE. BAD; NOT.")
    static void badGoesAheadOfNot_safe(Check is) {
        is.due("safe(3, 0)", new StickRelay().safe(3, 0), BAD);
        is.due("safe(0, 17)", new StickRelay().safe(0, 17), BAD);
        is.due("safe(0, 0)", new StickRelay().safe(0, 0), NOT);
    }

    @Edge(promise = 20, says = "somebody who RUNS is not there")
    static void whoeverIsNotThere_safe(Check is) {
        for (StickRelay x : Relays.lacking()) {
            safe(is, x, 0, NOT);
            safe(is, x, 16, NOT);
        }
    }

    // ---- 21: best

    private static void best(Check is, StickRelay x, int due) {
        for (int change = 0; change < 3; change++) is.due("best(" + change + ")", x.best(change), due);
    }

    @Edge(promise = 21, says = "(others aside: as though these were not OUT)")
    static void othersMayBeOut(Check is) {
        for (int out = 0; out < 3; out++) {
            StickRelay x = Relays.ofRising();
            x.mark(out, 40);
            is.due("time()", x.time(), NONE);
            best(is, x, 19);
        }
        best(is, marked(40, 40, 40), 19);
    }

    @Edge(promise = 21, says = "that CHANGE itself not being OUT")
    static void theLastOneThatIsNotOut(Check is) {
        StickRelay x = Relays.ofRising();
        best(is, x, 19);
        x.set(LAG, 19);
        best(is, x, 18);
        x.set(LAG, 29);
        best(is, x, 19);
        x.set(LAG, 30);
        best(is, x, 20);
    }

    @Edge(promise = 21, says = "the MARK by which the TIME is least, all else as told")
    static void byItsToldSlip(Check is) {
        int[][] due = {{-60, 17}, {-20, 17}, {-11, 17}, {-10, 18}, {-1, 18}, {9, 19}, {10, 20}, {60, 25}};
        for (int[] row : due) {
            StickRelay x = Relays.ofRising();
            for (int change = 0; change < 3; change++) x.slip(change, row[0]);
            best(is, x, row[1]);
        }
    }

    @Edge(promise = 21, says = "the MARK by which the TIME is least, all else as told")
    static void evenWhereEachOneIsBumped(Check is) {
        StickRelay x = Relays.ofEven();
        x.set(BUMP, 99);
        best(is, x, 3);
        x.set(BUMP, 0);
        best(is, x, 3);
    }

    /** 40 less 10 x, where who comes is the slower one. */
    @Edge(promise = 21, says = "that CHANGE itself not being OUT")
    static void theBestMarkMayMeetAt0Alone(Check is) {
        StickRelay x = Relays.typed("202003;101003;202003;101003");
        is.due("best(0)", x.best(0), 2);
        is.due("best(2)", x.best(2), 2);
        is.due("safe(0, 10)", x.safe(0, 10), 2);
        is.due("safe(0, 12)", x.safe(0, 12), 1);
    }

    @Edge(promise = 21, says = "has a MARK (0 to 40 yards;")
    static void theLeastAndTheGreatestMark(Check is) {
        best(is, withoutRoom(), 0);
        is.due("best(0)", withRoomForAll().best(0), 40);
    }

    @Edge(promise = 21, says = "BEST; NONE. BAD; NOT.")
    static void itsOwnMarkIsAsideAndStays(Check is) {
        int[] marks = {0, 19, 40};
        for (int mark : marks) {
            StickRelay x = marked(mark, mark, mark);
            best(is, x, 19);
            for (int change = 0; change < 3; change++) is.due("count(" + (3 + change) + ")", x.count(3 + change), mark);
        }
    }

    @Edge(promise = 21, says = "BEST; NONE. BAD; NOT.")
    static void aChangeBelow0OrAbove2IsBad_best(Check is) {
        for (int change : NO_CHANGES) is.due("best(" + change + ")", Relays.ofRising().best(change), BAD);
    }

    @Edge(promise = 21, says = "BEST; NONE. BAD; NOT.")
    static void badGoesAheadOfNot_best(Check is) {
        is.due("best(3)", new StickRelay().best(3), BAD);
        is.due("best(0)", new StickRelay().best(0), NOT);
    }

    @Edge(promise = 21, says = "somebody who RUNS is not there")
    static void whoeverIsNotThere_best(Check is) {
        for (StickRelay x : Relays.lacking()) best(is, x, NOT);
    }

    // ---- 22: order

    @Edge(promise = 22, says = "of all ways that four unlike RUNNERS run the STRETCHES")
    static void fewerThanFourAreNone(Check is) {
        for (int n = 0; n < 4; n++) {
            StickRelay x = Relays.typed(Relays.times(n, Relays.RISING));
            for (int without = -1; without <= 4; without++) noOrder(is, x, without);
        }
    }

    @Edge(promise = 22, says = "of all ways that four unlike RUNNERS run the STRETCHES")
    static void fourAreEnough(Check is) {
        orders(is, Relays.ofRising(), NONE, 4130, 0, 1, 2, 3, 19, 19, 19);
    }

    @Edge(promise = 22, says = "ORDER without one (0 to 4; NONE: with all)")
    static void fourWithoutOneAreNone(Check is) {
        for (int without = 0; without < 4; without++) noOrder(is, Relays.ofRising(), without);
    }

    @Edge(promise = 22, says = "ORDER without one (0 to 4; NONE: with all)")
    static void fiveWithoutEachOne(Check is) {
        StickRelay x = Relays.typed(Relays.times(5, Relays.RISING));
        int[][] who = {{1, 2, 3, 4}, {0, 2, 3, 4}, {0, 1, 3, 4}, {0, 1, 2, 4}, {0, 1, 2, 3}};
        for (int without = 0; without < 5; without++) {
            int[] row = who[without];
            orders(is, x, without, 4130, row[0], row[1], row[2], row[3], 19, 19, 19);
        }
    }

    @Edge(promise = 22, says = "ORDER without one (0 to 4; NONE: with all)")
    static void withoutOneWhoIsNotThereIsWithAll(Check is) {
        orders(is, Relays.ofRising(), 4, 4130, 0, 1, 2, 3, 19, 19, 19);
        noOrder(is, new StickRelay(), 4);
        noOrder(is, new StickRelay(), 0);
    }

    @Edge(promise = 22, says = "MARKS of CHANGES 0 to 2 (5 to 7); NONE. BAD.")
    static void withoutBelowNoneOrAbove4IsBad(Check is) {
        int[] beyond = {-2, 5, LEAST, MOST};
        for (int without : beyond) {
            is.due("order(" + without + ", 0)", Relays.ofRising().order(without, 0), BAD);
            is.due("order(" + without + ", 0) of nobody", new StickRelay().order(without, 0), BAD);
        }
    }

    @Edge(promise = 22, says = "MARKS of CHANGES 0 to 2 (5 to 7); NONE. BAD.")
    static void whatBelow0OrAbove7IsBad(Check is) {
        int[] beyond = {-1, 8, LEAST, MOST};
        for (int what : beyond) {
            is.due("order(-1, " + what + ")", Relays.ofRising().order(NONE, what), BAD);
            is.due("order(-1, " + what + ") of nobody", new StickRelay().order(NONE, what), BAD);
        }
    }

    @Edge(promise = 22, says = "With a FAULT there is nobody.")
    static void withAFaultThereIsNoOrder(Check is) {
        noOrder(is, Relays.typed(Relays.times(4, Relays.RISING) + ";"), NONE);
    }

    @Edge(promise = 22, says = "ORDER: the TIME (what = 0), who RUNS STRETCHES 0 to 3 (1 to 4), MARKS of CHANGES 0 to 2 (5 to 7); NONE. BAD.")
    static void whoRunsNeedNotBeThere(Check is) {
        for (StickRelay x : Relays.lacking()) orders(is, x, NONE, 4130, 0, 1, 2, 3, 19, 19, 19);
    }

    @Edge(promise = 22, says = "(each has the stick in one hand all the way, one of those that HANDS tells, "
        + "who RUNS STRETCH i and 1 in the other hand than who RUNS STRETCH i)")
    static void handsThatCannotChange(Check is) {
        String[] none = {"1111", "2222", "1113", "3222", "1112", "1222", "1131"};
        for (String hands : none) noOrder(is, handed(hands), NONE);
        noOrder(is, handed("11122"), 3);
        noOrder(is, handed("11122"), 4);
    }

    @Edge(promise = 22, says = "(each has the stick in one hand all the way, one of those that HANDS tells, "
        + "who RUNS STRETCH i and 1 in the other hand than who RUNS STRETCH i)")
    static void handsThatCanChangeInSomeOrdersAlone(Check is) {
        orders(is, handed("1122"), NONE, 4130, 0, 2, 1, 3, 19, 19, 19);
        orders(is, handed("2211"), NONE, 4130, 0, 2, 1, 3, 19, 19, 19);
        orders(is, handed("1212"), NONE, 4130, 0, 1, 2, 3, 19, 19, 19);
        orders(is, handed("2121"), NONE, 4130, 0, 1, 2, 3, 19, 19, 19);
        orders(is, handed("1133"), NONE, 4130, 0, 2, 1, 3, 19, 19, 19);
        orders(is, handed("3322"), NONE, 4130, 0, 2, 1, 3, 19, 19, 19);
        orders(is, handed("1323"), NONE, 4130, 0, 1, 3, 2, 19, 19, 19);
        orders(is, handed("11122"), 0, 4130, 1, 3, 2, 4, 19, 19, 19);
    }

    @Edge(promise = 22, says = "the one with the least TIME, of like ones the least row by RUNNERS")
    static void ofLikeOnesTheLeastRow(Check is) {
        orders(is, Relays.typed(Relays.times(5, Relays.RISING)), NONE, 4130, 0, 1, 2, 3, 19, 19, 19);
    }

    @Edge(promise = 22, says = "the one with the least TIME, of like ones the least row by RUNNERS")
    static void aLesserTimeGoesAheadOfALesserRow(Check is) {
        StickRelay x = Relays.typed("202003;202003;202003;202003;192003");
        x.set(ZONE, 5);
        x.set(REACH, 0);
        x.set(LAG, 0);
        x.set(BUMP, 0);
        orders(is, x, NONE, 7900, 0, 1, 2, 4, 0, 0, 0);
    }

    @Edge(promise = 22, says = "the one with the least TIME, of like ones the least row by RUNNERS")
    static void aHundredthLessGoesAheadOfALesserRow(Check is) {
        StickRelay x = Relays.typed("111103;202003;202003;202003");
        x.set(ZONE, 5);
        x.set(REACH, 5);
        x.set(LAG, 0);
        x.set(BUMP, 0);
        orders(is, x, NONE, 3 * 1900 + 1100, 1, 2, 3, 0, 5, 5, 5);
    }

    @Edge(promise = 22, says = "the one with the least TIME, of like ones the least row by RUNNERS")
    static void theFirstOneMayRunAnyStretch(Check is) {
        StickRelay x = Relays.typed("303003;202003;202003;202003");
        x.set(REACH, 0);
        x.set(LAG, 0);
        x.set(BUMP, 0);
        orders(is, x, NONE, 1800 + 3000 + 2000 + 2000, 1, 0, 2, 3, 10, 0, 0);
        x.set(BEND, 9);
        orders(is, x, NONE, 2900 + 1620 + 3900 + 2000, 1, 2, 0, 3, 0, 19, 0);
    }

    @Edge(promise = 22, says = "each CHANGE with its BEST MARK, without SLIPS")
    static void whateverMarksAndSlipsAreTold(Check is) {
        StickRelay x = marked(0, 40, 20);
        x.slip(0, 60);
        x.slip(1, -60);
        x.slip(2, 1);
        orders(is, x, NONE, 4130, 0, 1, 2, 3, 19, 19, 19);
        x.set(LAG, 29);
        orders(is, x, NONE, 4157, 0, 1, 2, 3, 19, 19, 19);
        x.set(LAG, 30);
        orders(is, x, NONE, 4130, 0, 1, 2, 3, 20, 20, 20);
    }

    @Edge(promise = 22, says = "each CHANGE with its BEST MARK, without SLIPS")
    static void eachChangeHasItsOwnBestMark(Check is) {
        StickRelay x = Relays.ofRising();
        x.set(BEND, 3);
        orders(is, x, NONE, 1350 + 930 + 1350 + 1160, 0, 1, 2, 3, 10, 25, 10);
    }

    @Edge(promise = 22, says = "each CHANGE with its BEST MARK, without SLIPS")
    static void bumpsAreLostInAnOrderToo(Check is) {
        StickRelay x = Relays.ofEven();
        orders(is, x, NONE, 3 * (970 + 20 + 30) + 1000, 0, 1, 2, 3, 3, 3, 3);
        x.set(BUMP, 99);
        orders(is, x, NONE, 3 * (970 + 20 + 99) + 1000, 0, 1, 2, 3, 3, 3, 3);
    }

    @Edge(promise = 22, says = "has a MARK (0 to 40 yards;")
    static void theLeastAndTheGreatestMarkOfAnOrder(Check is) {
        orders(is, withoutRoom(), NONE, 3 * 130 + 100, 0, 1, 2, 3, 0, 0, 0);
        StickRelay x = Relays.typed("019993;019993;019993;019993");
        x.set(ZONE, 30);
        orders(is, x, NONE, 3 * (36 * 99 + 24 + 20) + 36 * 99 + 64, 0, 1, 2, 3, 40, 40, 40);
    }

    @Edge(promise = 22, says = "ORDER: the TIME (what = 0), who RUNS STRETCHES 0 to 3 (1 to 4)")
    static void anOrderTellsAndChangesNothingOfTheRace(Check is) {
        Whole.stays(is, "order(1, 0)", x -> x.order(1, 0));
    }
}
