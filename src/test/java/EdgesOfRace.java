/**
 * Boundary cases of promises 12 to 17: the race.
 * Of four of Relays.RISING who comes and who goes MEET at the first x, of 20 at most, at which 30 and 8 x are
 * no less than 10 times the MARK; each CHANGE adds 1180 less 10 times the MARK to the TIME, and there are 1160 behind.
 */
final class EdgesOfRace {
    private static final int BAD = StickRelay.BAD, NOT = StickRelay.NOT, NONE = StickRelay.NONE;
    private static final int ZONE = 0, REACH = 1, LAG = 2, TIRE = 3, BEND = 4, BUMP = 5;
    private static final int LEAST = Integer.MIN_VALUE, MOST = Integer.MAX_VALUE;
    private static final int[] NO_STRETCHES = {-1, 4, LEAST, MOST};
    private static final int[] NO_CHANGES = {-1, 3, LEAST, MOST};

    private EdgesOfRace() {
    }

    private static StickRelay ruled(int what, int v) {
        StickRelay x = Relays.ofRising();
        x.set(what, v);
        return x;
    }

    /** Marked alike at each CHANGE. */
    private static StickRelay marked(int mark) {
        StickRelay x = Relays.ofRising();
        Relays.marks(x, mark, mark, mark);
        return x;
    }

    private static void meets(Check is, String when, StickRelay x, int due) {
        for (int change = 0; change < 3; change++) is.due("meet(" + change + ") " + when, x.meet(change), due);
    }

    private static void kinds(Check is, String when, StickRelay x, int due) {
        for (int change = 0; change < 3; change++) is.due("kind(" + change + ") " + when, x.kind(change), due);
    }

    // ---- 12: takes

    @Edge(promise = 12, says = "takes for so many yards (0 to 100) of a STRETCH from where one stands")
    static void noYardsTakeNothing(Check is) {
        StickRelay x = Relays.typed("999993");
        x.set(TIRE, 9);
        x.set(BEND, 9);
        for (int stretch = 0; stretch < 4; stretch++) is.due("takes(0, " + stretch + ", 0)", x.takes(0, stretch, 0), 0);
    }

    @Edge(promise = 12, says = "takes for so many yards (0 to 100) of a STRETCH from where one stands")
    static void oneYardAndAHundred(Check is) {
        StickRelay x = Relays.ofRising();
        is.due("takes(0, 0, 1)", x.takes(0, 0, 1), 18);
        is.due("takes(0, 0, 99)", x.takes(0, 0, 99), 1150);
        is.due("takes(0, 0, 100)", x.takes(0, 0, 100), 1160);
    }

    @Edge(promise = 12, says = "of a STRETCH from where one stands. BAD.")
    static void yardsBelow0OrAbove100AreBad(Check is) {
        int[] beyond = {-1, 101, LEAST, MOST};
        for (int yards : beyond) is.due("takes(0, 0, " + yards + ")", Relays.ofRising().takes(0, 0, yards), BAD);
    }

    @Edge(promise = 12, says = "of a STRETCH from where one stands. BAD.")
    static void whoIsNotThereIsBad(Check is) {
        int[] nobody = {-1, 4, LEAST, MOST};
        for (int runner : nobody) is.due("takes(" + runner + ", 0, 9)", Relays.ofRising().takes(runner, 0, 9), BAD);
        is.due("takes(0, 0, 0) of none", new StickRelay().takes(0, 0, 0), BAD);
        is.due("takes(4, 0, 9) of five", Relays.typed(Relays.times(5, Relays.RISING)).takes(4, 0, 9), 162);
        is.due("takes(5, 0, 9) of five", Relays.typed(Relays.times(5, Relays.RISING)).takes(5, 0, 9), BAD);
    }

    @Edge(promise = 12, says = "of a STRETCH from where one stands. BAD.")
    static void aStretchBelow0OrAbove3IsBad(Check is) {
        for (int stretch : NO_STRETCHES) is.due("takes(0, " + stretch + ", 9)", Relays.ofRising().takes(0, stretch, 9), BAD);
        is.due("takes(0, 3, 9)", Relays.ofRising().takes(0, 3, 9), 162);
    }

    @Edge(promise = 12, says = "or SLOW (one of the first 4 times RISE yards that one runs there)")
    static void theLastSlowYardAndTheNext(Check is) {
        int[][] due = {{19, 342}, {20, 360}, {21, 370}, {22, 380}};
        for (int[] row : due) is.due("takes(0, 1, " + row[0] + ")", Relays.ofRising().takes(0, 1, row[0]), row[1]);
    }

    @Edge(promise = 12, says = "or SLOW (one of the first 4 times RISE yards that one runs there)")
    static void rise0HasNoSlowYard(Check is) {
        StickRelay x = Relays.typed("109903");
        is.due("takes(0, 1, 1)", x.takes(0, 1, 1), 10);
        is.due("takes(0, 1, 100)", x.takes(0, 1, 100), 1000);
    }

    @Edge(promise = 12, says = "or SLOW (one of the first 4 times RISE yards that one runs there)")
    static void rise9Has36SlowYards(Check is) {
        StickRelay x = Relays.typed("101893");
        int[][] due = {{35, 630}, {36, 648}, {37, 658}, {100, 1288}};
        for (int[] row : due) is.due("takes(0, 1, " + row[0] + ")", x.takes(0, 1, row[0]), row[1]);
    }

    @Edge(promise = 12, says = "and TIRE, and on STRETCHES 0 and 2 BEND")
    static void bendOnStretches0And2Alone(Check is) {
        int[] due = {19, 18, 19, 18};
        for (int stretch = 0; stretch < 4; stretch++) {
            is.due("takes(0, " + stretch + ", 1)", ruled(BEND, 1).takes(0, stretch, 1), due[stretch]);
        }
    }

    @Edge(promise = 12, says = "and TIRE, and on STRETCHES 0 and 2 BEND")
    static void tireOnEachStretch(Check is) {
        for (int stretch = 0; stretch < 4; stretch++) {
            is.due("takes(0, " + stretch + ", 1)", ruled(TIRE, 1).takes(0, stretch, 1), 19);
            is.due("takes(0, " + stretch + ", 100)", ruled(TIRE, 9).takes(0, stretch, 100), 2060);
        }
    }

    @Edge(promise = 12, says = "and TIRE, and on STRETCHES 0 and 2 BEND")
    static void theMostAndTheLeastThatYardsTake(Check is) {
        StickRelay slow = Relays.typed("999993");
        slow.set(TIRE, 9);
        slow.set(BEND, 9);
        is.due("takes(0, 2, 100)", slow.takes(0, 2, 100), 11700);
        is.due("takes(0, 3, 100)", slow.takes(0, 3, 100), 10800);
        is.due("takes(0, 0, 100)", Relays.typed("010101").takes(0, 0, 100), 100);
    }

    // ---- 13: when

    @Edge(promise = 13, says = "Who RUNS STRETCH 0 goes off at 0")
    static void theFirstGoesOffAt0(Check is) {
        StickRelay x = ruled(LAG, 99);
        x.slip(0, 60);
        is.due("when(0, 0)", x.when(0, 0), 0);
        is.due("when(0, 1)", x.when(0, 1), 1160);
    }

    @Edge(promise = 13, says = "goes off LAG and SLIP (0 at least together)")
    static void lagAndSlipTogetherAbove0(Check is) {
        StickRelay x = Relays.ofRising();
        x.slip(0, -19);
        is.due("when(1, 0)", x.when(1, 0), 1081);
        x.set(LAG, 99);
        x.slip(0, 60);
        is.due("when(1, 0)", x.when(1, 0), 1080 + 159);
    }

    @Edge(promise = 13, says = "goes off LAG and SLIP (0 at least together)")
    static void lagAndSlipTogether0(Check is) {
        StickRelay x = Relays.ofRising();
        x.slip(0, -20);
        is.due("when(1, 0)", x.when(1, 0), 1080);
        x.slip(0, 0);
        x.set(LAG, 0);
        is.due("when(1, 0)", x.when(1, 0), 1080);
    }

    @Edge(promise = 13, says = "goes off LAG and SLIP (0 at least together)")
    static void lagAndSlipTogetherBelow0Are0(Check is) {
        StickRelay x = Relays.ofRising();
        x.slip(0, -21);
        is.due("when(1, 0)", x.when(1, 0), 1080);
        x.slip(0, -60);
        is.due("when(1, 0)", x.when(1, 0), 1080);
        x.set(LAG, 0);
        x.slip(0, -1);
        is.due("when(1, 0)", x.when(1, 0), 1080);
    }

    @Edge(promise = 13, says = "after the one ahead is as many yards behind that place as the MARK tells")
    static void theLeastAndTheGreatestMark(Check is) {
        StickRelay x = marked(0);
        is.due("when(1, 0) by MARK 0", x.when(1, 0), 1180);
        x = marked(40);
        is.due("when(1, 0) by MARK 40", x.when(1, 0), 780);
    }

    @Edge(promise = 13, says = "(1), BUMPS aside")
    static void bumpsAreAside(Check is) {
        StickRelay x = marked(3);
        x.set(BUMP, 99);
        is.due("kind(0)", x.kind(0), 2);
        for (int stretch = 0; stretch < 4; stretch++) {
            is.due("when(" + stretch + ", 0)", x.when(stretch, 0), 1150 * stretch);
            is.due("when(" + stretch + ", 1)", x.when(stretch, 1), 1150 * stretch + 1160);
        }
    }

    @Edge(promise = 13, says = "When who RUNS a STRETCH goes off (what = 0), is 100 yards on (1)")
    static void aChangeThatIsOutIsToldAllTheSame(Check is) {
        StickRelay x = marked(20);
        is.due("kind(0)", x.kind(0), 3);
        is.due("when(1, 0)", x.when(1, 0), 980);
        is.due("when(3, 1)", x.when(3, 1), 3 * 980 + 1160);
    }

    @Edge(promise = 13, says = "(1), BUMPS aside. BAD; NOT.")
    static void aStretchBelow0OrAbove3IsBad_when(Check is) {
        for (int stretch : NO_STRETCHES) is.due("when(" + stretch + ", 0)", Relays.ofRising().when(stretch, 0), BAD);
    }

    @Edge(promise = 13, says = "(1), BUMPS aside. BAD; NOT.")
    static void whatBelow0OrAbove1IsBad(Check is) {
        int[] whats = {-1, 2, LEAST, MOST};
        for (int what : whats) is.due("when(0, " + what + ")", Relays.ofRising().when(0, what), BAD);
    }

    @Edge(promise = 13, says = "(1), BUMPS aside. BAD; NOT.")
    static void badGoesAheadOfNot_when(Check is) {
        is.due("when(4, 0)", new StickRelay().when(4, 0), BAD);
        is.due("when(0, 2)", new StickRelay().when(0, 2), BAD);
        is.due("when(0, 0)", new StickRelay().when(0, 0), NOT);
    }

    @Edge(promise = 13, says = "somebody who RUNS is not there")
    static void whoeverIsNotThere_when(Check is) {
        for (StickRelay x : Relays.lacking()) {
            for (int stretch = 0; stretch < 4; stretch++) {
                is.due("when(" + stretch + ", 0)", x.when(stretch, 0), NOT);
                is.due("when(" + stretch + ", 1)", x.when(stretch, 1), NOT);
            }
        }
    }

    // ---- 14: meet

    @Edge(promise = 14, says = "They MEET at the first yard x of the ZONE (0 to ZONE)")
    static void at0(Check is) {
        meets(is, "by MARK 0", marked(0), 0);
        meets(is, "by MARK 3", marked(3), 0);
    }

    @Edge(promise = 14, says = "They MEET at the first yard x of the ZONE (0 to ZONE)")
    static void atTheLastYardOfTheZone(Check is) {
        meets(is, "by MARK 19", marked(19), 20);
        StickRelay x = ruled(ZONE, 7);
        meets(is, "by ZONE 7", x, 7);
        x.set(ZONE, 5);
        Relays.marks(x, 7, 7, 7);
        meets(is, "by ZONE 5", x, 5);
        StickRelay far = Relays.typed(Relays.times(4, "101893"));
        far.set(ZONE, 30);
        Relays.marks(far, 27, 27, 27);
        meets(is, "by ZONE 30", far, 30);
    }

    @Edge(promise = 14, says = "Where they MEET; NONE.")
    static void oneYardBehindTheZoneIsNone(Check is) {
        meets(is, "by ZONE 6", ruled(ZONE, 6), NONE);
        meets(is, "by MARK 20", marked(20), NONE);
        meets(is, "by MARK 40", marked(40), NONE);
    }

    @Edge(promise = 14, says = "They MEET at the first yard x of the ZONE (0 to ZONE)")
    static void theFirstOfSeveralYards(Check is) {
        meets(is, "of like ones", Relays.meetingEverywhere(), 0);
        // 35 and 3 x up to 20, then 5 less a yard, against 90: x is 19, 20 or 21.
        StickRelay x = Relays.typed("151503;101853;151503;101853");
        x.mark(0, 6);
        is.due("meet(0)", x.meet(0), 19);
    }

    @Edge(promise = 14, says = "no later than who goes is x yards on")
    static void atTheSameTimeIsNoLater(Check is) {
        meets(is, "at the same time", marked(7), 5);
        meets(is, "at the same time at 0", marked(3), 0);
        meets(is, "at the same time at the end", marked(19), 20);
    }

    @Edge(promise = 14, says = "no later than who goes is x yards on")
    static void aHundredthLaterIsLater(Check is) {
        int[][] due = {{7, 6}, {3, 1}, {19, NONE}};
        for (int[] row : due) {
            StickRelay x = ruled(LAG, 19);
            Relays.marks(x, row[0], row[0], row[0]);
            meets(is, "by LAG 19 and MARK " + row[0], x, row[1]);
        }
    }

    @Edge(promise = 14, says = "x less REACH yards on (counted from that place; behind it below 0)")
    static void behindThatPlaceBelow0(Check is) {
        StickRelay x = ruled(REACH, 5);
        meets(is, "by REACH 5", x, 2);
        Relays.marks(x, 7, 7, 7);
        meets(is, "by REACH 5 at 0", x, 0);
    }

    @Edge(promise = 14, says = "x less REACH yards on (counted from that place; behind it below 0)")
    static void reach0(Check is) {
        StickRelay x = ruled(REACH, 0);
        meets(is, "by REACH 0", x, 8);
        Relays.marks(x, 2, 2, 2);
        meets(is, "by REACH 0 at that place", x, 0);
    }

    @Edge(promise = 14, says = "The one ahead goes on at its FULL (and TIRE, BEND).")
    static void whoComesGoesOnAsOnItsOwnStretch(Check is) {
        StickRelay x = ruled(BEND, 3);
        is.due("meet(0) by BEND 3: 33 and 5 x against 104", x.meet(0), 15);
        is.due("meet(1) by BEND 3: 30 and 11 x against 80", x.meet(1), 5);
        is.due("meet(2) by BEND 3: 33 and 5 x against 104", x.meet(2), 15);
        meets(is, "by TIRE 2: 32 and 8 x against 96", ruled(TIRE, 2), 8);
    }

    @Edge(promise = 14, says = "goes off LAG and SLIP (0 at least together)")
    static void lagAndSlipTogetherBelow0Are0_meet(Check is) {
        StickRelay x = Relays.typed(Relays.times(4, "010103"));
        Relays.marks(x, 2, 2, 2);
        x.set(LAG, 0);
        meets(is, "by LAG 0: 1 against 2", x, NONE);
        x.set(LAG, 1);
        meets(is, "by LAG 1: 2 against 2", x, 0);
        for (int change = 0; change < 3; change++) x.slip(change, -60);
        meets(is, "by LAG 1 and SLIP -60: 1 against 2", x, NONE);
        Relays.marks(x, 1, 1, 1);
        meets(is, "by LAG 1 and SLIP -60: 1 against 1", x, 0);
    }

    @Edge(promise = 14, says = "Where they MEET; NONE. BAD; NOT.")
    static void aChangeBelow0OrAbove2IsBad_meet(Check is) {
        for (int change : NO_CHANGES) is.due("meet(" + change + ")", Relays.ofRising().meet(change), BAD);
    }

    @Edge(promise = 14, says = "Where they MEET; NONE. BAD; NOT.")
    static void badGoesAheadOfNot_meet(Check is) {
        is.due("meet(3)", new StickRelay().meet(3), BAD);
        is.due("meet(2)", new StickRelay().meet(2), NOT);
    }

    @Edge(promise = 14, says = "somebody who RUNS is not there")
    static void whoeverIsNotThere_meet(Check is) {
        for (StickRelay x : Relays.lacking()) meets(is, "lacking one", x, NOT);
    }

    // ---- 15: kind

    @Edge(promise = 15, says = "2 BUMPED (x is 0, whatever the ZONE is)")
    static void bumpedWhateverTheZone(Check is) {
        for (int zone = 5; zone <= 30; zone++) {
            StickRelay x = marked(3);
            x.set(ZONE, zone);
            kinds(is, "by ZONE " + zone, x, 2);
        }
    }

    @Edge(promise = 15, says = "2 BUMPED (x is 0, whatever the ZONE is)")
    static void atYard1NobodyIsBumped(Check is) {
        StickRelay x = ruled(LAG, 19);
        Relays.marks(x, 3, 3, 3);
        meets(is, "by LAG 19", x, 1);
        kinds(is, "by LAG 19", x, 0);
    }

    @Edge(promise = 15, says = "1 stretched (x is among the last three yards: ZONE less 2 on)")
    static void theLastThreeYardsAreStretched(Check is) {
        for (int zone = 7; zone <= 9; zone++) kinds(is, "x 7 of " + zone, ruled(ZONE, zone), 1);
        kinds(is, "x 18 of 20", marked(17), 1);
        kinds(is, "x 20 of 20", marked(19), 1);
    }

    @Edge(promise = 15, says = "0 smooth; 1 stretched (x is among the last three yards: ZONE less 2 on)")
    static void theFourthFromTheEndIsSmooth(Check is) {
        kinds(is, "x 7 of 10", ruled(ZONE, 10), 0);
        kinds(is, "x 17 of 20", marked(16), 0);
    }

    @Edge(promise = 15, says = "1 stretched (x is among the last three yards: ZONE less 2 on)")
    static void theShortestZone(Check is) {
        int[][] due = {{3, 2}, {4, 0}, {5, 1}, {6, 1}, {7, 1}, {8, 3}};
        for (int[] row : due) {
            StickRelay x = marked(row[0]);
            x.set(ZONE, 5);
            kinds(is, "by ZONE 5 and MARK " + row[0], x, row[1]);
        }
    }

    @Edge(promise = 15, says = "3 OUT (there is no such x)")
    static void outIs3(Check is) {
        kinds(is, "by MARK 20", marked(20), 3);
        kinds(is, "by ZONE 6", ruled(ZONE, 6), 3);
    }

    @Edge(promise = 15, says = "KIND of a CHANGE. BAD; NOT.")
    static void aChangeBelow0OrAbove2IsBad_kind(Check is) {
        for (int change : NO_CHANGES) is.due("kind(" + change + ")", Relays.ofRising().kind(change), BAD);
    }

    @Edge(promise = 15, says = "KIND of a CHANGE. BAD; NOT.")
    static void badGoesAheadOfNot_kind(Check is) {
        is.due("kind(-1)", new StickRelay().kind(-1), BAD);
        is.due("kind(0)", new StickRelay().kind(0), NOT);
    }

    @Edge(promise = 15, says = "somebody who RUNS is not there")
    static void whoeverIsNotThere_kind(Check is) {
        for (StickRelay x : Relays.lacking()) kinds(is, "lacking one", x, NOT);
    }

    // ---- 16: time

    @Edge(promise = 16, says = "NONE: a CHANGE is OUT.")
    static void oneChangeOutIsEnough(Check is) {
        for (int change = 0; change < 3; change++) {
            StickRelay x = Relays.ofRising();
            x.mark(change, 20);
            is.due("time(), " + change + " being OUT", x.time(), NONE);
            x.mark(change, 19);
            is.due("time(), " + change + " being all but OUT", x.time(), 2 * 1100 + 990 + 1160);
        }
    }

    @Edge(promise = 16, says = "when who RUNS STRETCH 3 is 100 yards on, and all that was lost by BUMPS")
    static void aBumpAtAnyChange(Check is) {
        for (int change = 0; change < 3; change++) {
            StickRelay x = Relays.ofRising();
            x.mark(change, 3);
            is.due("time() with a BUMP at " + change, x.time(), 2 * 1100 + 1150 + 30 + 1160);
        }
        is.due("time() with three BUMPS", marked(3).time(), 3 * 1180 + 1160);
    }

    @Edge(promise = 16, says = "Who is BUMPED loses BUMP hundredths.")
    static void theLeastAndTheGreatestBump(Check is) {
        StickRelay x = marked(3);
        x.set(BUMP, 0);
        is.due("time() by BUMP 0", x.time(), 3 * 1150 + 1160);
        x.set(BUMP, 99);
        is.due("time() by BUMP 99", x.time(), 3 * 1249 + 1160);
    }

    @Edge(promise = 16, says = "Who is BUMPED loses BUMP hundredths.")
    static void whoIsStretchedLosesNothing(Check is) {
        StickRelay x = marked(19);
        kinds(is, "by MARK 19", x, 1);
        is.due("time()", x.time(), 3 * 990 + 1160);
    }

    @Edge(promise = 16, says = "NONE: a CHANGE is OUT.")
    static void outIsByWhoComesAndWhoGoes(Check is) {
        StickRelay x = Relays.typed("101003;101853;101003;101853");
        Relays.marks(x, 8, 3, 8);
        is.due("time(), 1 BUMPED", x.time(), 940 + 1150 + 30 + 940 + 1160);
        x.mark(1, 4);
        is.due("time(), 1 OUT", x.time(), NONE);
    }

    @Edge(promise = 16, says = "somebody who RUNS is not there")
    static void whoeverIsNotThere_time(Check is) {
        for (StickRelay x : Relays.lacking()) is.due("time()", x.time(), NOT);
        is.due("time() of nobody", new StickRelay().time(), NOT);
    }

    @Edge(promise = 16, says = "TIME; NONE. NOT.")
    static void notEvenWhereAChangeWouldBeOut(Check is) {
        for (StickRelay x : Relays.lacking()) {
            Relays.marks(x, 40, 40, 40);
            is.due("time()", x.time(), NOT);
        }
    }

    @Edge(promise = 16, says = "the same one may be told twice")
    static void oneAloneRunsAll(Check is) {
        StickRelay x = Relays.typed(Relays.RISING);
        for (int stretch = 0; stretch < 4; stretch++) x.runs(stretch, 0);
        is.due("time()", x.time(), 4460);
    }

    // ---- 17: carries

    private static void carriesAre(Check is, StickRelay x, int... due) {
        for (int stretch = 0; stretch < 4; stretch++) is.due("carries(" + stretch + ")", x.carries(stretch), due[stretch]);
    }

    @Edge(promise = 17, says = "from the start, or x yards on of the CHANGE ahead, to x yards on of the CHANGE behind, or the end: 400 in all")
    static void fourHundredInAll(Check is) {
        StickRelay x = Relays.ofRising();
        Relays.marks(x, 8, 4, 19);
        carriesAre(is, x, 107, 95, 118, 80);
    }

    @Edge(promise = 17, says = "from the start, or x yards on of the CHANGE ahead, to x yards on of the CHANGE behind, or the end: 400 in all")
    static void theMostAndTheFewestYards(Check is) {
        StickRelay x = Relays.typed(Relays.times(4, "101893"));
        x.set(ZONE, 30);
        Relays.marks(x, 27, 3, 27);
        carriesAre(is, x, 130, 70, 130, 70);
        Relays.marks(x, 3, 27, 3);
        carriesAre(is, x, 100, 130, 70, 100);
    }

    @Edge(promise = 17, says = "NONE: a CHANGE there is OUT.")
    static void outThereIsNone(Check is) {
        int[][] due = {{NONE, NONE, 100, 93}, {107, NONE, NONE, 93}, {107, 100, NONE, NONE}};
        for (int change = 0; change < 3; change++) {
            StickRelay x = Relays.ofRising();
            x.mark(change, 20);
            carriesAre(is, x, due[change]);
        }
        carriesAre(is, marked(20), NONE, NONE, NONE, NONE);
    }

    @Edge(promise = 17, says = "CARRIES; NONE. BAD; NOT.")
    static void aStretchBelow0OrAbove3IsBad_carries(Check is) {
        for (int stretch : NO_STRETCHES) is.due("carries(" + stretch + ")", Relays.ofRising().carries(stretch), BAD);
    }

    @Edge(promise = 17, says = "CARRIES; NONE. BAD; NOT.")
    static void badGoesAheadOfNot_carries(Check is) {
        is.due("carries(4)", new StickRelay().carries(4), BAD);
        is.due("carries(3)", new StickRelay().carries(3), NOT);
    }

    @Edge(promise = 17, says = "somebody who RUNS is not there")
    static void whoeverIsNotThere_carries(Check is) {
        for (StickRelay x : Relays.lacking()) carriesAre(is, x, NOT, NOT, NOT, NOT);
    }
}
