/** Boundary cases of promises 26 to 31: SHEETS. */
final class EdgesOfSheets {
    private static final int BAD = StickRelay.BAD, NOT = StickRelay.NOT, NONE = StickRelay.NONE;
    private static final int LEAST = Integer.MIN_VALUE, MOST = Integer.MAX_VALUE;
    private static final int NULL = -11, INDEX = -12, CAST = -13, STORE = -14, SIZE = -15;
    private static final int[] NO_SHEETS = {-1, 4, LEAST, MOST};
    private static final int[] NO_FORMS = {-1, 3, LEAST, MOST};

    private EdgesOfSheets() {
    }

    /** SHEET 0 holds 1, 2, 3, .., SHEET 1 as many 0 as told; 2 has another FORM, 3 is LOST. */
    private static StickRelay rows(int form, int first, int second) {
        StickRelay x = new StickRelay();
        x.sheet(0, form, first);
        x.sheet(1, form, second);
        x.sheet(2, (form + 1) % 3, 5);
        for (int i = 0; i < first; i++) x.lay(0, form, i, i + 1);
        return x;
    }

    private static void items(Check is, StickRelay x, int s, int form, int... due) {
        for (int i = 0; i < due.length; i++) is.due("item " + i + " of " + s, x.get(s, form, i), due[i]);
        is.due("the item behind the last of " + s, x.get(s, form, due.length), LEAST);
    }

    /** What is not found is told by the least int and by count(8). */
    private static void unfound(Check is, StickRelay x, int s, int form, int i, int finding) {
        String call = "get(" + s + ", " + form + ", " + i + ")";
        is.due(call, x.get(s, form, i), LEAST);
        is.due(call + ", then count(8)", x.count(8), finding);
    }

    // ---- 26: sheet

    @Edge(promise = 26, says = "A SHEET is a new row of a FORM with n items: n.")
    static void theFirstAndTheLastSheetAndForm(Check is) {
        for (int s = 0; s < 4; s++) {
            for (int form = 0; form < 3; form++) {
                StickRelay x = new StickRelay();
                is.due("sheet(" + s + ", " + form + ", 2)", x.sheet(s, form, 2), 2);
                items(is, x, s, form, 0, 0);
            }
        }
    }

    @Edge(promise = 26, says = "of 0 to 60 items (0 at first)")
    static void noItems(Check is) {
        for (int form = 0; form < 3; form++) {
            StickRelay x = new StickRelay();
            is.due("sheet(3, " + form + ", 0)", x.sheet(3, form, 0), 0);
            unfound(is, x, 3, form, 0, 2);
            is.due("lose(3)", x.lose(3), 0);
        }
    }

    @Edge(promise = 26, says = "of 0 to 60 items (0 at first)")
    static void sixtyItems(Check is) {
        for (int form = 0; form < 3; form++) {
            StickRelay x = new StickRelay();
            is.due("sheet(0, " + form + ", 60)", x.sheet(0, form, 60), 60);
            items(is, x, 0, form, new int[60]);
        }
    }

    @Edge(promise = 26, says = "BAD: SHEET, FORM, above 60; SIZE.")
    static void above60IsBad(Check is) {
        int[] beyond = {61, 62, MOST};
        for (int n : beyond) {
            is.due("sheet(0, 0, " + n + ")", new StickRelay().sheet(0, 0, n), BAD);
            Whole.stays(is, "sheet(0, 0, " + n + ")", x -> x.sheet(0, 0, n));
        }
    }

    @Edge(promise = 26, says = "BAD: SHEET, FORM, above 60; SIZE.")
    static void aSheetBelow0OrAbove3IsBad_sheet(Check is) {
        for (int s : NO_SHEETS) {
            is.due("sheet(" + s + ", 0, 1)", new StickRelay().sheet(s, 0, 1), BAD);
            Whole.stays(is, "sheet(" + s + ", 0, 1)", x -> x.sheet(s, 0, 1));
        }
    }

    @Edge(promise = 26, says = "BAD: SHEET, FORM, above 60; SIZE.")
    static void aFormBelow0OrAbove2IsBad_sheet(Check is) {
        for (int form : NO_FORMS) {
            is.due("sheet(0, " + form + ", 1)", new StickRelay().sheet(0, form, 1), BAD);
            Whole.stays(is, "sheet(0, " + form + ", 1)", x -> x.sheet(0, form, 1));
        }
    }

    @Edge(promise = 26, says = "5 SIZE: below 0")
    static void below0IsSize(Check is) {
        int[] low = {-1, -2, LEAST};
        for (int n : low) {
            StickRelay x = new StickRelay();
            is.due("sheet(0, 0, " + n + ")", x.sheet(0, 0, n), SIZE);
            is.due("count(8)", x.count(8), 5);
            is.due("lose(0)", x.lose(0), NULL);
            Whole.stays(is, "sheet(1, 2, " + n + ")", Whole::rich, y -> y.sheet(1, 2, n), 5);
        }
    }

    @Edge(promise = 26, says = "BAD: SHEET, FORM, above 60; SIZE.")
    static void badGoesAheadOfSize(Check is) {
        StickRelay x = new StickRelay();
        is.due("sheet(4, 0, -1)", x.sheet(4, 0, -1), BAD);
        is.due("sheet(-1, 0, -1)", x.sheet(-1, 0, -1), BAD);
        is.due("sheet(0, 3, -1)", x.sheet(0, 3, -1), BAD);
        is.due("sheet(0, -1, -1)", x.sheet(0, -1, -1), BAD);
        is.due("count(8)", x.count(8), 0);
    }

    @Edge(promise = 26, says = "of 0 to 60 items (0 at first)")
    static void aNewRowForgetsTheOldOne(Check is) {
        StickRelay x = new StickRelay();
        x.sheet(1, 2, 60);
        for (int i = 0; i < 60; i++) x.lay(1, 2, i, LEAST + 1 + i);
        x.sheet(1, 2, 2);
        items(is, x, 1, 2, 0, 0);
        x.sheet(1, 2, 60);
        items(is, x, 1, 2, new int[60]);
        x.lay(1, 2, 59, 7);
        x.lose(1);
        x.sheet(1, 0, 60);
        items(is, x, 1, 0, new int[60]);
    }

    @Edge(promise = 26, says = "A SHEET is a new row of a FORM with n items: n.")
    static void otherSheetsStay(Check is) {
        StickRelay x = rows(0, 3, 2);
        x.sheet(1, 2, 60);
        x.sheet(3, 1, 60);
        items(is, x, 0, 0, 1, 2, 3);
        items(is, x, 2, 1, new int[5]);
    }

    // ---- 27: lose

    @Edge(promise = 27, says = "It is LOST: how many items it had.")
    static void loseOfAnEmptyOneAndOf60(Check is) {
        for (int s = 0; s < 4; s++) {
            StickRelay x = new StickRelay();
            x.sheet(s, 1, 0);
            is.due("lose(" + s + ")", x.lose(s), 0);
            is.due("lose(" + s + ") again", x.lose(s), NULL);
            x.sheet(s, 1, 60);
            is.due("lose(" + s + ")", x.lose(s), 60);
            is.due("lose(" + s + ") again", x.lose(s), NULL);
        }
    }

    @Edge(promise = 27, says = "how many items it had. BAD; NULL.")
    static void loseOfALostOneIsNull(Check is) {
        for (int s = 0; s < 4; s++) {
            StickRelay x = new StickRelay();
            is.due("lose(" + s + ")", x.lose(s), NULL);
            is.due("count(8)", x.count(8), 1);
        }
        Whole.stays(is, "lose(3)", Whole::rich, x -> x.lose(3), 1);
    }

    @Edge(promise = 27, says = "how many items it had. BAD; NULL.")
    static void aSheetBelow0OrAbove3IsBad_lose(Check is) {
        for (int s : NO_SHEETS) {
            is.due("lose(" + s + ")", new StickRelay().lose(s), BAD);
            Whole.stays(is, "lose(" + s + ")", x -> x.lose(s));
        }
    }

    @Edge(promise = 27, says = "It is LOST: how many items it had.")
    static void nothingCanBeDoneWithALostOne(Check is) {
        StickRelay x = rows(0, 3, 3);
        x.lose(1);
        is.due("read(1)", x.read(1), NULL);
        is.due("lay(1, 0, 0, 5)", x.lay(1, 0, 0, 5), NULL);
        unfound(is, x, 1, 0, 0, 1);
        is.due("copy(0, 0, 1, 0, 1)", x.copy(0, 0, 1, 0, 1), NULL);
        is.due("copy(1, 0, 0, 0, 1)", x.copy(1, 0, 0, 0, 1), NULL);
        is.due("write(1)", x.write(1), NULL);
        items(is, x, 0, 0, 1, 2, 3);
    }

    // ---- 28: lay

    private static void laid(Check is, int form, int v, int due) {
        StickRelay x = new StickRelay();
        x.sheet(2, form, 3);
        is.due("lay(2, " + form + ", 1, " + v + ")", x.lay(2, form, 1, v), 1);
        items(is, x, 2, form, 0, due, 0);
    }

    @Edge(promise = 28, says = "becomes v (the lowest bits that it has, with its sign): 1.")
    static void theLowest8BitsOfAByte(Check is) {
        int[][] due = {{127, 127}, {128, -128}, {255, -1}, {256, 0}, {-128, -128}, {-129, 127}, {LEAST, 0}, {MOST, -1}, {0x180, -128}};
        for (int[] row : due) laid(is, 0, row[0], row[1]);
    }

    @Edge(promise = 28, says = "becomes v (the lowest bits that it has, with its sign): 1.")
    static void theLowest16BitsOfAShort(Check is) {
        int[][] due = {{32767, 32767}, {32768, -32768}, {65535, -1}, {65536, 0}, {-32768, -32768}, {-32769, 32767}, {LEAST, 0}, {MOST, -1}};
        for (int[] row : due) laid(is, 1, row[0], row[1]);
    }

    @Edge(promise = 28, says = "becomes v (the lowest bits that it has, with its sign): 1.")
    static void all32BitsOfAnInt(Check is) {
        int[] due = {LEAST + 1, MOST, -1, 65536, 32768, 128};
        for (int v : due) laid(is, 2, v, v);
        StickRelay x = new StickRelay();
        x.sheet(0, 2, 1);
        is.due("lay(0, 2, 0, least)", x.lay(0, 2, 0, LEAST), 1);
        is.due("get(0, 2, 0)", x.get(0, 2, 0), LEAST);
    }

    @Edge(promise = 28, says = "Item i, treated as of a FORM, becomes v")
    static void theFirstAndTheLastItem(Check is) {
        for (int form = 0; form < 3; form++) {
            StickRelay x = new StickRelay();
            x.sheet(0, form, 60);
            is.due("lay(0, " + form + ", 0, 5)", x.lay(0, form, 0, 5), 1);
            is.due("lay(0, " + form + ", 59, 6)", x.lay(0, form, 59, 6), 1);
            is.due("get(0, " + form + ", 0)", x.get(0, form, 0), 5);
            is.due("get(0, " + form + ", 59)", x.get(0, form, 59), 6);
        }
    }

    @Edge(promise = 28, says = "2 INDEX: there is no such item")
    static void layBelow0OrBehindTheLastIsIndex(Check is) {
        int[] beyond = {-1, 3, 4, 59, 60, LEAST, MOST};
        for (int i : beyond) {
            is.due("lay(0, 0, " + i + ", 5)", Whole.rich().lay(0, 0, i, 5), INDEX);
            Whole.stays(is, "lay(0, 0, " + i + ", 5)", Whole::rich, x -> x.lay(0, 0, i, 5), 2);
        }
        is.due("lay(1, 1, 60, 5) of 60", Whole.rich().lay(1, 1, 60, 5), INDEX);
        is.due("lay(2, 2, 0, 5) of none", Whole.rich().lay(2, 2, 0, 5), INDEX);
    }

    @Edge(promise = 28, says = "3 CAST: it has another FORM")
    static void layAsOfAnotherFormIsCast(Check is) {
        for (int s = 0; s < 3; s++) {
            for (int form = 0; form < 3; form++) {
                if (form == s) continue;
                int sheet = s;
                int other = form;
                is.due("lay(" + s + ", " + form + ", 0, 5)", Whole.rich().lay(s, form, 0, 5), CAST);
                Whole.stays(is, "lay(" + s + ", " + form + ", 0, 5)", Whole::rich, x -> x.lay(sheet, other, 0, 5), 3);
            }
        }
    }

    @Edge(promise = 28, says = "with its sign): 1. BAD; NULL; CAST; INDEX.")
    static void layOnALostOneIsNull(Check is) {
        Whole.stays(is, "lay(3, 0, 0, 5)", Whole::rich, x -> x.lay(3, 0, 0, 5), 1);
        for (int form = 0; form < 3; form++) is.due("lay(3, " + form + ", 0, 5)", Whole.rich().lay(3, form, 0, 5), NULL);
    }

    @Edge(promise = 28, says = "with its sign): 1. BAD; NULL; CAST; INDEX.")
    static void aSheetOrAFormThatIsNoneIsBad_lay(Check is) {
        for (int s : NO_SHEETS) {
            is.due("lay(" + s + ", 0, 0, 5)", Whole.rich().lay(s, 0, 0, 5), BAD);
            Whole.stays(is, "lay(" + s + ", 0, 0, 5)", x -> x.lay(s, 0, 0, 5));
        }
        for (int form : NO_FORMS) {
            is.due("lay(0, " + form + ", 0, 5)", Whole.rich().lay(0, form, 0, 5), BAD);
            Whole.stays(is, "lay(0, " + form + ", 0, 5)", x -> x.lay(0, form, 0, 5));
        }
    }

    @Edge(promise = 28, says = "with its sign): 1. BAD; NULL; CAST; INDEX.")
    static void layRefusesInThisOrder(Check is) {
        StickRelay x = Whole.rich();
        is.due("BAD ahead of NULL", x.lay(3, 3, 0, 5), BAD);
        is.due("BAD ahead of CAST and INDEX", x.lay(0, 3, 99, 5), BAD);
        is.due("NULL ahead of CAST and INDEX", x.lay(3, 2, 99, 5), NULL);
        is.due("CAST ahead of INDEX", x.lay(0, 1, 99, 5), CAST);
        is.due("CAST ahead of INDEX below 0", x.lay(0, 1, -1, 5), CAST);
    }

    @Edge(promise = 28, says = "3 CAST: it has another FORM")
    static void aLostSheetHasNoFormOfBefore(Check is) {
        StickRelay x = rows(1, 2, 2);
        x.lose(0);
        is.due("lay(0, 1, 0, 5)", x.lay(0, 1, 0, 5), NULL);
        x.sheet(0, 2, 2);
        is.due("lay(0, 1, 0, 5)", x.lay(0, 1, 0, 5), CAST);
        is.due("lay(0, 2, 0, 5)", x.lay(0, 2, 0, 5), 1);
    }

    // ---- 29: get

    @Edge(promise = 29, says = "Item i of it.")
    static void theFirstAndTheLastItem_get(Check is) {
        for (int form = 0; form < 3; form++) {
            StickRelay x = rows(form, 60, 0);
            is.due("get(0, " + form + ", 0)", x.get(0, form, 0), 1);
            is.due("get(0, " + form + ", 59)", x.get(0, form, 59), 60);
        }
    }

    @Edge(promise = 29, says = "so are NULL, CAST, INDEX (count() 8 tells)")
    static void getBelow0OrBehindTheLast(Check is) {
        int[] beyond = {-1, 3, 60, LEAST, MOST};
        for (int i : beyond) {
            unfound(is, Whole.rich(), 0, 0, i, 2);
            Whole.stays(is, "get(0, 0, " + i + ")", Whole::rich, x -> x.get(0, 0, i), 2);
        }
        unfound(is, Whole.rich(), 1, 1, 60, 2);
        unfound(is, Whole.rich(), 2, 2, 0, 2);
    }

    @Edge(promise = 29, says = "so are NULL, CAST, INDEX (count() 8 tells)")
    static void getOfALostOne(Check is) {
        for (int form = 0; form < 3; form++) unfound(is, Whole.rich(), 3, form, 0, 1);
        for (int s = 0; s < 4; s++) unfound(is, new StickRelay(), s, 0, 0, 1);
    }

    @Edge(promise = 29, says = "so are NULL, CAST, INDEX (count() 8 tells)")
    static void getAsOfAnotherForm(Check is) {
        for (int s = 0; s < 3; s++) {
            for (int form = 0; form < 3; form++) {
                if (form != s) unfound(is, Whole.rich(), s, form, 0, 3);
            }
        }
    }

    @Edge(promise = 29, says = "BAD: the least int; so are NULL, CAST, INDEX (count() 8 tells).")
    static void badIsTheLeastIntAndNoFinding(Check is) {
        for (int s : NO_SHEETS) unfound(is, Whole.rich(), s, 0, 0, 5);
        for (int form : NO_FORMS) unfound(is, Whole.rich(), 0, form, 0, 5);
        unfound(is, new StickRelay(), 4, 0, 0, 0);
    }

    @Edge(promise = 29, says = "BAD: the least int; so are NULL, CAST, INDEX (count() 8 tells).")
    static void getRefusesInThisOrder(Check is) {
        unfound(is, Whole.rich(), 3, 3, 99, 5);
        unfound(is, Whole.rich(), 3, 2, 99, 1);
        unfound(is, Whole.rich(), 0, 1, 99, 3);
        unfound(is, Whole.rich(), 0, 1, -1, 3);
    }

    @Edge(promise = 29, says = "BAD: the least int; so are NULL, CAST, INDEX (count() 8 tells).")
    static void anItemThatIsTheLeastIntIsNoFinding(Check is) {
        StickRelay x = new StickRelay();
        x.sheet(0, 2, 1);
        x.lay(0, 2, 0, LEAST);
        x.sheet(0, 0, -1);
        is.due("get(0, 2, 0)", x.get(0, 2, 0), LEAST);
        is.due("count(8), as it was", x.count(8), 5);
    }

    // ---- 30: copy

    @Edge(promise = 30, says = "n items of SHEET s, from i on, come to SHEET t (perhaps s, as they were), from j on: 1.")
    static void allItemsAndTheLastOne(Check is) {
        for (int form = 0; form < 3; form++) {
            StickRelay x = rows(form, 4, 4);
            is.due("copy(0, 0, 1, 0, 4)", x.copy(0, 0, 1, 0, 4), 1);
            items(is, x, 1, form, 1, 2, 3, 4);
            is.due("copy(0, 3, 1, 0, 1)", x.copy(0, 3, 1, 0, 1), 1);
            is.due("copy(0, 0, 1, 3, 1)", x.copy(0, 0, 1, 3, 1), 1);
            items(is, x, 1, form, 4, 2, 3, 1);
            items(is, x, 0, form, 1, 2, 3, 4);
        }
    }

    @Edge(promise = 30, says = "n items of SHEET s, from i on, come to SHEET t (perhaps s, as they were), from j on: 1.")
    static void sixtyItemsToTheLastSheet(Check is) {
        StickRelay x = rows(2, 60, 0);
        x.sheet(3, 2, 60);
        is.due("copy(0, 0, 3, 0, 60)", x.copy(0, 0, 3, 0, 60), 1);
        for (int i = 0; i < 60; i++) is.due("item " + i, x.get(3, 2, i), i + 1);
    }

    @Edge(promise = 30, says = "(perhaps s, as they were)")
    static void onToItselfForwards(Check is) {
        for (int form = 0; form < 3; form++) {
            StickRelay x = rows(form, 5, 0);
            is.due("copy(0, 0, 0, 1, 4)", x.copy(0, 0, 0, 1, 4), 1);
            items(is, x, 0, form, 1, 1, 2, 3, 4);
        }
    }

    @Edge(promise = 30, says = "(perhaps s, as they were)")
    static void onToItselfBackwardsAndInPlace(Check is) {
        for (int form = 0; form < 3; form++) {
            StickRelay x = rows(form, 5, 0);
            is.due("copy(0, 0, 0, 0, 5)", x.copy(0, 0, 0, 0, 5), 1);
            items(is, x, 0, form, 1, 2, 3, 4, 5);
            is.due("copy(0, 1, 0, 0, 4)", x.copy(0, 1, 0, 0, 4), 1);
            items(is, x, 0, form, 2, 3, 4, 5, 5);
        }
    }

    @Edge(promise = 30, says = "(with n 0, too, if i or j is above how many there are)")
    static void noneFromTheEndOnIsWell(Check is) {
        StickRelay x = rows(0, 3, 2);
        is.due("copy(0, 3, 1, 2, 0)", x.copy(0, 3, 1, 2, 0), 1);
        is.due("copy(0, 0, 1, 0, 0)", x.copy(0, 0, 1, 0, 0), 1);
        is.due("count(8)", x.count(8), 0);
        items(is, x, 1, 0, 0, 0);
        StickRelay empty = rows(0, 0, 0);
        is.due("copy(0, 0, 1, 0, 0) of empty ones", empty.copy(0, 0, 1, 0, 0), 1);
    }

    @Edge(promise = 30, says = "(with n 0, too, if i or j is above how many there are)")
    static void noneFromBehindTheEndOnIsIndex(Check is) {
        is.due("copy(0, 4, 1, 0, 0)", rows(0, 3, 2).copy(0, 4, 1, 0, 0), INDEX);
        is.due("copy(0, 0, 1, 3, 0)", rows(0, 3, 2).copy(0, 0, 1, 3, 0), INDEX);
        is.due("copy(0, greatest, 1, 0, 0)", rows(0, 3, 2).copy(0, MOST, 1, 0, 0), INDEX);
        is.due("copy(0, 0, 1, greatest, 0)", rows(0, 3, 2).copy(0, 0, 1, MOST, 0), INDEX);
        is.due("copy(0, 1, 1, 0, 0) of empty ones", rows(0, 0, 0).copy(0, 1, 1, 0, 0), INDEX);
    }

    private static void beyond(Check is, int[][] calls) {
        for (int[] row : calls) {
            StickRelay x = rows(0, 5, 4);
            String call = "copy(0, " + row[0] + ", 1, " + row[1] + ", " + row[2] + ")";
            is.due(call, x.copy(0, row[0], 1, row[1], row[2]), INDEX);
            is.due(call + ", then count(8)", x.count(8), 2);
            Whole.stays(is, call, () -> rows(0, 5, 4), y -> y.copy(0, row[0], 1, row[1], row[2]), 2);
        }
    }

    @Edge(promise = 30, says = "INDEX: below 0, not so many")
    static void below0IsIndex(Check is) {
        beyond(is, new int[][] {{-1, 0, 1}, {0, -1, 1}, {0, 0, -1}, {-1, 0, 0}, {0, -1, 0}, {LEAST, 0, 0}, {0, LEAST, 0}, {0, 0, LEAST}});
    }

    @Edge(promise = 30, says = "INDEX: below 0, not so many")
    static void notSoManyAreIndex(Check is) {
        beyond(is, new int[][] {{2, 0, 4}, {5, 0, 1}, {0, 1, 4}, {0, 4, 1}, {0, 0, 5}, {0, 0, 6}, {0, 0, 61}});
    }

    @Edge(promise = 30, says = "INDEX: below 0, not so many")
    static void sumsThatWouldWrapAreIndex(Check is) {
        beyond(is, new int[][] {{1, 0, MOST}, {0, 1, MOST}, {MOST, 0, 1}, {0, MOST, 1}, {MOST, MOST, MOST}, {-1, -1, MOST}, {MOST, 0, LEAST}, {5, 4, LEAST}});
    }

    @Edge(promise = 30, says = "STORE; INDEX: below 0, not so many")
    static void unlikeFormsAreStore(Check is) {
        for (int form = 0; form < 3; form++) {
            int own = form;
            is.due("copy(0, 0, 2, 0, 1)", rows(form, 5, 4).copy(0, 0, 2, 0, 1), STORE);
            is.due("copy(2, 0, 0, 0, 0)", rows(form, 5, 4).copy(2, 0, 0, 0, 0), STORE);
            Whole.stays(is, "copy(0, 0, 2, 0, 1)", () -> rows(own, 5, 4), x -> x.copy(0, 0, 2, 0, 1), 4);
        }
    }

    @Edge(promise = 30, says = "NULL: s, t;")
    static void eitherOneLostIsNull(Check is) {
        is.due("copy(3, 0, 0, 0, 1)", rows(0, 5, 4).copy(3, 0, 0, 0, 1), NULL);
        is.due("copy(0, 0, 3, 0, 1)", rows(0, 5, 4).copy(0, 0, 3, 0, 1), NULL);
        is.due("copy(3, 0, 3, 0, 0)", rows(0, 5, 4).copy(3, 0, 3, 0, 0), NULL);
        Whole.stays(is, "copy(0, 0, 3, 0, 1)", Whole::rich, x -> x.copy(0, 0, 3, 0, 1), 1);
    }

    @Edge(promise = 30, says = "BAD: the SHEETS;")
    static void eitherSheetBelow0OrAbove3IsBad(Check is) {
        for (int s : NO_SHEETS) {
            is.due("copy(" + s + ", 0, 0, 0, 1)", Whole.rich().copy(s, 0, 0, 0, 1), BAD);
            is.due("copy(0, 0, " + s + ", 0, 1)", Whole.rich().copy(0, 0, s, 0, 1), BAD);
            Whole.stays(is, "copy(0, 0, " + s + ", 0, 1)", x -> x.copy(0, 0, s, 0, 1));
        }
    }

    @Edge(promise = 30, says = "BAD: the SHEETS; NULL: s, t; STORE; INDEX")
    static void copyRefusesInThisOrder(Check is) {
        StickRelay x = rows(0, 5, 4);
        is.due("BAD ahead of NULL", x.copy(3, 0, 4, 0, 1), BAD);
        is.due("BAD ahead of NULL", x.copy(4, 0, 3, 0, 1), BAD);
        is.due("NULL ahead of STORE and INDEX", x.copy(2, 0, 3, -1, 99), NULL);
        is.due("NULL ahead of STORE and INDEX", x.copy(3, 99, 2, 0, 1), NULL);
        is.due("STORE ahead of INDEX", x.copy(0, -1, 2, 99, 99), STORE);
        is.due("STORE ahead of INDEX", x.copy(0, 0, 2, 0, -1), STORE);
    }

    // ---- 31: write

    @Edge(promise = 31, says = "from item 0 on, as many as there are items, four at most: how many.")
    static void asManyAsThereAreItemsFourAtMost(Check is) {
        int[] carries = {107, 95, 118, 80};
        int[] sizes = {0, 1, 2, 3, 4, 5, 60};
        for (int size : sizes) {
            StickRelay x = Relays.ofRising();
            Relays.marks(x, 8, 4, 19);
            x.sheet(3, 2, size);
            is.due("write(3) of " + size, x.write(3), Math.min(size, 4));
            int[] due = new int[size];
            for (int i = 0; i < size && i < 4; i++) due[i] = carries[i];
            items(is, x, 3, 2, due);
        }
    }

    @Edge(promise = 31, says = "four at most: how many.")
    static void theFifthItemStays(Check is) {
        StickRelay x = Relays.ofRising();
        x.sheet(0, 0, 6);
        x.lay(0, 0, 4, 55);
        x.lay(0, 0, 5, 66);
        is.due("write(0)", x.write(0), 4);
        items(is, x, 0, 0, 107, 100, 100, 93, 55, 66);
    }

    @Edge(promise = 31, says = "CARRIES of STRETCHES 0 on (NONE) come to a SHEET")
    static void outIsWrittenAsNone(Check is) {
        for (int form = 0; form < 3; form++) {
            StickRelay x = Relays.ofRising();
            x.mark(0, 20);
            x.sheet(0, form, 4);
            is.due("write(0)", x.write(0), 4);
            items(is, x, 0, form, NONE, NONE, 100, 93);
        }
    }

    @Edge(promise = 31, says = "(of each the lowest bits that an item has, with its sign)")
    static void aHundredAndThirtyDoesNotFitAByte(Check is) {
        int[][] due = {{-126, 70}, {130, 70}, {130, 70}};
        for (int form = 0; form < 3; form++) {
            StickRelay x = Relays.typed(Relays.times(4, "101893"));
            x.set(0, 30);
            Relays.marks(x, 27, 3, 27);
            x.sheet(0, form, 2);
            is.due("write(0)", x.write(0), 2);
            items(is, x, 0, form, due[form]);
        }
    }

    @Edge(promise = 31, says = "(of each the lowest bits that an item has, with its sign)")
    static void aHundredAndTwentyEightIsTheFirstThatDoesNotFit(Check is) {
        StickRelay x = Relays.typed(Relays.times(4, "101893"));
        x.set(0, 30);
        x.sheet(0, 0, 1);
        x.mark(0, 25);
        is.due("carries(0)", x.carries(0), 128);
        x.write(0);
        items(is, x, 0, 0, -128);
        x.mark(0, 24);
        is.due("carries(0)", x.carries(0), 127);
        x.write(0);
        items(is, x, 0, 0, 127);
    }

    @Edge(promise = 31, says = "four at most: how many. BAD; NULL; NOT.")
    static void aSheetBelow0OrAbove3IsBad_write(Check is) {
        for (int s : NO_SHEETS) {
            is.due("write(" + s + ")", Whole.rich().write(s), BAD);
            Whole.stays(is, "write(" + s + ")", x -> x.write(s));
        }
    }

    @Edge(promise = 31, says = "four at most: how many. BAD; NULL; NOT.")
    static void writeOnALostOneIsNull(Check is) {
        for (int s = 0; s < 4; s++) is.due("write(" + s + ")", Relays.ofRising().write(s), NULL);
        Whole.stays(is, "write(3)", Whole::rich, x -> x.write(3), 1);
    }

    @Edge(promise = 31, says = "four at most: how many. BAD; NULL; NOT.")
    static void writeRefusesInThisOrder(Check is) {
        is.due("BAD ahead of NULL and NOT", new StickRelay().write(4), BAD);
        StickRelay x = new StickRelay();
        is.due("NULL ahead of NOT", x.write(0), NULL);
        is.due("count(8)", x.count(8), 1);
        x.sheet(0, 0, 0);
        is.due("NOT even of an empty one", x.write(0), NOT);
        is.due("NOT is no FINDING", x.count(8), 1);
    }

    @Edge(promise = 31, says = "somebody who RUNS is not there")
    static void whoeverIsNotThere_write(Check is) {
        for (StickRelay x : Relays.lacking()) {
            x.sheet(0, 2, 4);
            for (int i = 0; i < 4; i++) x.lay(0, 2, i, 70 + i);
            is.due("write(0)", x.write(0), NOT);
            items(is, x, 0, 2, 70, 71, 72, 73);
        }
    }
}
