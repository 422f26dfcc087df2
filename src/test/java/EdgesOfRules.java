/** Boundary cases of promises 7 to 11: who RUNS, the rules, MARKS and SLIPS, MARKS by a SHEET. */
final class EdgesOfRules {
    private static final int BAD = StickRelay.BAD;
    private static final int LEAST = Integer.MIN_VALUE, MOST = Integer.MAX_VALUE;

    private EdgesOfRules() {
    }

    // ---- 7: runs

    @Edge(promise = 7, says = "STRETCHES are 0 to 3; who RUNS each (0 to 4;")
    static void theFirstAndTheLastStretch(Check is) {
        StickRelay x = new StickRelay();
        is.due("runs(0, 1)", x.runs(0, 1), 0);
        is.due("runs(3, 1)", x.runs(3, 1), 3);
        is.due("runs(0, 1)", x.runs(0, 1), 1);
        is.due("runs(3, 1)", x.runs(3, 1), 1);
    }

    @Edge(promise = 7, says = "Who RUNS a STRETCH: who it was. BAD.")
    static void aStretchBelow0OrAbove3IsBad(Check is) {
        int[] stretches = {-1, 4, LEAST, MOST};
        for (int stretch : stretches) {
            is.due("runs(" + stretch + ", 0)", new StickRelay().runs(stretch, 0), BAD);
            Whole.stays(is, "runs(" + stretch + ", 0)", x -> x.runs(stretch, 0));
        }
    }

    @Edge(promise = 7, says = "who RUNS each (0 to 4;")
    static void theFirstAndTheFifthMayRunThoughTheyAreNotThere(Check is) {
        StickRelay x = new StickRelay();
        is.due("runs(1, 0)", x.runs(1, 0), 1);
        is.due("runs(1, 4)", x.runs(1, 4), 0);
        is.due("runs(1, 1)", x.runs(1, 1), 4);
    }

    @Edge(promise = 7, says = "Who RUNS a STRETCH: who it was. BAD.")
    static void aRunnerBelow0OrAbove4IsBad(Check is) {
        int[] runners = {-1, 5, LEAST, MOST};
        for (int runner : runners) {
            is.due("runs(0, " + runner + ")", Whole.rich().runs(0, runner), BAD);
            Whole.stays(is, "runs(0, " + runner + ")", x -> x.runs(0, runner));
        }
    }

    @Edge(promise = 7, says = "the same one may be told twice")
    static void theSameOneTwice(Check is) {
        StickRelay x = new StickRelay();
        is.due("runs(0, 3)", x.runs(0, 3), 0);
        is.due("runs(1, 3)", x.runs(1, 3), 1);
        is.due("runs(2, 3)", x.runs(2, 3), 2);
        is.due("runs(3, 3)", x.runs(3, 3), 3);
        is.due("count(6)", x.count(6), 1);
    }

    // ---- 8: set

    private static void bounds(Check is, int what, int least, int most) {
        StickRelay x = new StickRelay();
        x.set(what, least);
        is.due("set(" + what + ", greatest)", x.set(what, most), least);
        is.due("set(" + what + ", least)", x.set(what, least), most);
        int[] beyond = {least - 1, most + 1, LEAST, MOST};
        for (int v : beyond) {
            is.due("set(" + what + ", " + v + ")", x.set(what, v), BAD);
            is.due("set(" + what + ", least), behind it", x.set(what, least), least);
        }
    }

    @Edge(promise = 8, says = "ZONE (5 to 30 yards;")
    static void zoneFrom5To30(Check is) {
        bounds(is, 0, 5, 30);
    }

    @Edge(promise = 8, says = "REACH (0 to 5;")
    static void reachFrom0To5(Check is) {
        bounds(is, 1, 0, 5);
    }

    @Edge(promise = 8, says = "LAG (0 to 99 hundredths;")
    static void lagFrom0To99(Check is) {
        bounds(is, 2, 0, 99);
    }

    @Edge(promise = 8, says = "TIRE, BEND (0 to 9 hundredths;")
    static void tireFrom0To9(Check is) {
        bounds(is, 3, 0, 9);
    }

    @Edge(promise = 8, says = "TIRE, BEND (0 to 9 hundredths;")
    static void bendFrom0To9(Check is) {
        bounds(is, 4, 0, 9);
    }

    @Edge(promise = 8, says = "BUMP (0 to 99;")
    static void bumpFrom0To99(Check is) {
        bounds(is, 5, 0, 99);
    }

    @Edge(promise = 8, says = "STEP (0 to 30;")
    static void stepFrom0To30(Check is) {
        bounds(is, 6, 0, 30);
    }

    @Edge(promise = 8, says = "STEP (6): what it was. BAD.")
    static void whatBelow0OrAbove6IsBad(Check is) {
        int[] whats = {-1, 7, LEAST, MOST};
        for (int what : whats) {
            is.due("set(" + what + ", 5)", new StickRelay().set(what, 5), BAD);
            Whole.stays(is, "set(" + what + ", 5)", x -> x.set(what, 5));
        }
    }

    @Edge(promise = 8, says = "They change nothing")
    static void whatIsBadLeavesEachRule(Check is) {
        int[][] beyond = {{0, 4}, {0, 31}, {1, 6}, {2, 100}, {3, 10}, {4, 10}, {5, 100}, {6, 31}, {4, -1}};
        for (int[] row : beyond) Whole.stays(is, "set(" + row[0] + ", " + row[1] + ")", x -> x.set(row[0], row[1]));
    }

    // ---- 9: mark

    @Edge(promise = 9, says = "CHANGE i (0 to 2) has a MARK (0 to 40 yards;")
    static void theLeastAndTheGreatestMark(Check is) {
        StickRelay x = new StickRelay();
        for (int change = 0; change < 3; change++) {
            is.due("mark(" + change + ", 0)", x.mark(change, 0), 8);
            is.due("mark(" + change + ", 40)", x.mark(change, 40), 0);
            is.due("count(" + (3 + change) + ")", x.count(3 + change), 40);
        }
    }

    @Edge(promise = 9, says = "The MARK of a CHANGE: what it was. BAD.")
    static void aMarkBelow0OrAbove40IsBad(Check is) {
        int[] beyond = {-1, 41, LEAST, MOST};
        for (int v : beyond) {
            is.due("mark(2, " + v + ")", new StickRelay().mark(2, v), BAD);
            Whole.stays(is, "mark(2, " + v + ")", x -> x.mark(2, v));
        }
    }

    @Edge(promise = 9, says = "The MARK of a CHANGE: what it was. BAD.")
    static void aChangeBelow0OrAbove2IsBad(Check is) {
        int[] changes = {-1, 3, LEAST, MOST};
        for (int change : changes) {
            is.due("mark(" + change + ", 9)", new StickRelay().mark(change, 9), BAD);
            Whole.stays(is, "mark(" + change + ", 9)", x -> x.mark(change, 9));
        }
    }

    // ---- 10: slip

    @Edge(promise = 10, says = "a SLIP (-60 to 60 hundredths;")
    static void theLeastAndTheGreatestSlip(Check is) {
        StickRelay x = new StickRelay();
        for (int change = 0; change < 3; change++) {
            is.due("slip(" + change + ", -60)", x.slip(change, -60), 0);
            is.due("slip(" + change + ", 60)", x.slip(change, 60), -60);
            is.due("slip(" + change + ", 0)", x.slip(change, 0), 60);
        }
    }

    @Edge(promise = 10, says = "The SLIP of a CHANGE, as any number: what it was.")
    static void aSlipLikeARefusalIsToldAsANumber(Check is) {
        int[] likeThem = {-1, -2, -3, -4, -11, -12};
        for (int v : likeThem) {
            StickRelay x = new StickRelay();
            is.due("slip(1, " + v + ")", x.slip(1, v), 0);
            is.due("slip(1, 0)", x.slip(1, 0), v);
        }
    }

    @Edge(promise = 10, says = "BAD: -1002.")
    static void aSlipBelowOrAboveIsRefusedFarBelow(Check is) {
        int[] beyond = {-61, 61, LEAST, MOST, -1002};
        for (int v : beyond) {
            is.due("slip(0, " + v + ")", new StickRelay().slip(0, v), -1002);
            Whole.stays(is, "slip(0, " + v + ")", x -> x.slip(0, v));
        }
    }

    @Edge(promise = 10, says = "where any number is told, it is -1000 less x")
    static void aChangeBelow0OrAbove2IsRefusedFarBelow(Check is) {
        int[] changes = {-1, 3, LEAST, MOST};
        for (int change : changes) {
            is.due("slip(" + change + ", 0)", new StickRelay().slip(change, 0), -1002);
            Whole.stays(is, "slip(" + change + ", 0)", x -> x.slip(change, 0));
        }
    }

    // ---- 11: read

    private static StickRelay withSheet(int form, int... items) {
        StickRelay x = new StickRelay();
        Relays.marks(x, 21, 22, 23);
        x.sheet(1, form, items.length);
        for (int i = 0; i < items.length; i++) x.lay(1, form, i, items[i]);
        return x;
    }

    private static void reads(Check is, StickRelay x, int many, int first, int second, int third) {
        is.due("read(1)", x.read(1), many);
        is.due("count(3)", x.count(3), first);
        is.due("count(4)", x.count(4), second);
        is.due("count(5)", x.count(5), third);
    }

    @Edge(promise = 11, says = "MARKS of CHANGES 0 on by a SHEET, item by item, as long as each may be, three at most: how many.")
    static void anEmptySheetGivesNone(Check is) {
        for (int form = 0; form < 3; form++) reads(is, withSheet(form), 0, 21, 22, 23);
    }

    @Edge(promise = 11, says = "MARKS of CHANGES 0 on by a SHEET, item by item, as long as each may be, three at most: how many.")
    static void aShortSheetGivesWhatItHas(Check is) {
        reads(is, withSheet(0, 5), 1, 5, 22, 23);
        reads(is, withSheet(1, 5, 6), 2, 5, 6, 23);
        reads(is, withSheet(2, 5, 6, 7), 3, 5, 6, 7);
    }

    @Edge(promise = 11, says = "three at most")
    static void aLongSheetGivesThree(Check is) {
        reads(is, withSheet(0, 5, 6, 7, 8), 3, 5, 6, 7);
        reads(is, withSheet(2, new int[60]), 3, 0, 0, 0);
        reads(is, withSheet(2, 5, 6, 7, 41), 3, 5, 6, 7);
    }

    @Edge(promise = 11, says = "as long as each may be")
    static void theLeastAndTheGreatestMayBe(Check is) {
        for (int form = 0; form < 3; form++) reads(is, withSheet(form, 0, 40, 0), 3, 0, 40, 0);
    }

    @Edge(promise = 11, says = "as long as each may be")
    static void oneBelow0EndsIt(Check is) {
        reads(is, withSheet(0, -1, 5, 6), 0, 21, 22, 23);
        reads(is, withSheet(1, 5, -1, 6), 1, 5, 22, 23);
        reads(is, withSheet(2, 5, 6, LEAST), 2, 5, 6, 23);
    }

    @Edge(promise = 11, says = "as long as each may be")
    static void oneAbove40EndsIt(Check is) {
        reads(is, withSheet(0, 41, 5, 6), 0, 21, 22, 23);
        reads(is, withSheet(1, 5, 41, 6), 1, 5, 22, 23);
        reads(is, withSheet(2, 5, 6, MOST), 2, 5, 6, 23);
    }

    @Edge(promise = 11, says = "three at most: how many. BAD; NULL.")
    static void aSheetBelow0OrAbove3IsBad(Check is) {
        int[] sheets = {-1, 4, LEAST, MOST};
        for (int s : sheets) {
            is.due("read(" + s + ")", new StickRelay().read(s), BAD);
            Whole.stays(is, "read(" + s + ")", x -> x.read(s));
        }
    }

    @Edge(promise = 11, says = "three at most: how many. BAD; NULL.")
    static void aLostSheetIsNull(Check is) {
        for (int s = 0; s < 4; s++) is.due("read(" + s + ")", new StickRelay().read(s), -11);
        is.due("read(3)", Whole.rich().read(3), -11);
        Whole.stays(is, "read(3)", Whole::rich, x -> x.read(3), 1);
        StickRelay x = withSheet(0, 5, 6, 7);
        x.lose(1);
        reads(is, x, -11, 21, 22, 23);
    }

    @Edge(promise = 11, says = "MARKS of CHANGES 0 on by a SHEET")
    static void theFirstAndTheLastSheet(Check is) {
        for (int s = 0; s < 4; s++) {
            StickRelay x = new StickRelay();
            x.sheet(s, 0, 1);
            x.lay(s, 0, 0, 33);
            is.due("read(" + s + ")", x.read(s), 1);
            is.due("count(3)", x.count(3), 33);
            is.due("the SHEET stays", x.get(s, 0, 0), 33);
        }
    }
}
