/**
 * Boundary cases of promises 23 to 25: BLAME, TIME by a SEED, RACES.
 * Four of Relays.RISING with MARKS of 8 take 4460 hundredths, and the SLIPS that the LOTS bring.
 */
final class EdgesOfLots {
    private static final int BAD = StickRelay.BAD, NOT = StickRelay.NOT, NONE = StickRelay.NONE;
    private static final int ZONE = 0, LAG = 2, BUMP = 5, STEP = 6;
    private static final int LEAST = Integer.MIN_VALUE, MOST = Integer.MAX_VALUE;
    // A SEED by which the first LOT of 16 is 0, 1, .. 15, the two behind it bringing no SLIP; the SEED
    // that comes of it is 0 or more, then below 0.
    private static final int[] LOTS_OF_HIGH = {472, 429, 183, 853, 465, 422, 133, 90, 47, 514, 1935, 324, 281, 238, 48, 5};
    private static final int[] LOTS_OF_LOW = {373, 84, 41, 97, 54, 521, 988, 232, 146, 245, 712, 423, 380, 337, 804, 416};
    private static final int[] STEPS = {-2, -1, -1, -1, -1, 0, 0, 0, 0, 0, 0, 1, 1, 1, 1, 2};

    private EdgesOfLots() {
    }

    private static StickRelay marked(int mark) {
        StickRelay x = Relays.ofRising();
        Relays.marks(x, mark, mark, mark);
        return x;
    }

    private static void blames(Check is, StickRelay x, int at, int due) {
        for (int change = 0; change < 3; change++) is.due("blame(" + change + ", " + at + ")", x.blame(change, at), due);
    }

    // ---- 23: blame

    @Edge(promise = 23, says = "it fell at yard x (0 to ZONE) of a CHANGE")
    static void atYard0(Check is) {
        int[] due = {28, 2, 1, 0};
        for (int at = 0; at < due.length; at++) blames(is, marked(3), at, due[at]);
    }

    @Edge(promise = 23, says = "it fell at yard x (0 to ZONE) of a CHANGE")
    static void atTheLastYardOfTheZone(Check is) {
        blames(is, marked(19), 20, 12);
        blames(is, marked(19), 19, 16);
        blames(is, marked(19), 18, 0);
    }

    @Edge(promise = 23, says = "it fell at yard x (0 to ZONE) of a CHANGE")
    static void whatIsOutMeetsNowhere(Check is) {
        for (int at = 0; at <= 20; at++) blames(is, marked(21), at, 0);
    }

    @Edge(promise = 23, says = "BLAME, as bits. BAD; NOT.")
    static void yardsBelow0OrBehindTheZoneAreBad(Check is) {
        int[] beyond = {-1, 21, LEAST, MOST};
        for (int at : beyond) blames(is, Relays.ofRising(), at, BAD);
    }

    @Edge(promise = 23, says = "it fell at yard x (0 to ZONE) of a CHANGE")
    static void asTheZoneIsNow(Check is) {
        StickRelay x = Relays.ofRising();
        x.set(ZONE, 5);
        blames(is, x, 5, 16);
        blames(is, x, 6, BAD);
        x.set(ZONE, 30);
        blames(is, x, 30, 0);
        blames(is, x, 31, BAD);
    }

    @Edge(promise = 23, says = "SLIPS of -2 to 2 times STEP by which they MEET there, as bits (0 for -2, and so on)")
    static void theFirstAndTheLastBit(Check is) {
        int[] due = {0, 0, 0, 0, 0, 16, 8, 6, 1, 0};
        for (int at = 0; at < due.length; at++) blames(is, Relays.ofRising(), at, due[at]);
    }

    @Edge(promise = 23, says = "SLIPS of -2 to 2 times STEP by which they MEET there, as bits (0 for -2, and so on)")
    static void byStep0AllOrNone(Check is) {
        StickRelay x = Relays.ofRising();
        x.set(STEP, 0);
        for (int at = 0; at <= 20; at++) blames(is, x, at, at == 7 ? 31 : 0);
    }

    @Edge(promise = 23, says = "goes off LAG and SLIP (0 at least together)")
    static void lagAndStepsTogetherBelow0Are0(Check is) {
        StickRelay x = Relays.ofRising();
        x.set(STEP, 30);
        int[] due = {16, 0, 0, 8, 0, 0, 0, 4, 0, 3, 0};
        for (int at = 0; at < due.length; at++) blames(is, x, at, due[at]);
    }

    @Edge(promise = 23, says = "SLIPS of -2 to 2 times STEP by which they MEET there")
    static void whateverSlipIsTold_blame(Check is) {
        StickRelay x = Relays.ofRising();
        for (int change = 0; change < 3; change++) x.slip(change, 60);
        blames(is, x, 7, 6);
        blames(is, x, 0, 0);
    }

    @Edge(promise = 23, says = "BLAME, as bits. BAD; NOT.")
    static void aChangeBelow0OrAbove2IsBad(Check is) {
        int[] changes = {-1, 3, LEAST, MOST};
        for (int change : changes) is.due("blame(" + change + ", 0)", Relays.ofRising().blame(change, 0), BAD);
    }

    @Edge(promise = 23, says = "BLAME, as bits. BAD; NOT.")
    static void badGoesAheadOfNot_blame(Check is) {
        is.due("blame(3, 0)", new StickRelay().blame(3, 0), BAD);
        is.due("blame(0, 21)", new StickRelay().blame(0, 21), BAD);
        is.due("blame(0, 20)", new StickRelay().blame(0, 20), NOT);
    }

    @Edge(promise = 23, says = "somebody who RUNS is not there")
    static void whoeverIsNotThere_blame(Check is) {
        for (StickRelay x : Relays.lacking()) {
            blames(is, x, 0, NOT);
            blames(is, x, 20, NOT);
        }
    }

    // ---- 24: lot

    @Edge(promise = 24, says = "0: -2, 1 to 4: -1, 5 to 10: 0, 11 to 14: 1, 15: 2 times STEP")
    static void eachLotOf16(Check is) {
        for (int lot = 0; lot < 16; lot++) {
            is.due("lot(" + LOTS_OF_HIGH[lot] + ")", Relays.ofRising().lot(LOTS_OF_HIGH[lot]), 4460 + 5 * STEPS[lot]);
        }
    }

    @Edge(promise = 24, says = "its upper 16 bits as a number from 0 on, modulo m")
    static void eachLotOfASeedBelow0(Check is) {
        for (int lot = 0; lot < 16; lot++) {
            is.due("lot(" + LOTS_OF_LOW[lot] + ")", Relays.ofRising().lot(LOTS_OF_LOW[lot]), 4460 + 5 * STEPS[lot]);
        }
    }

    @Edge(promise = 24, says = "SEED becomes 1103515245 SEED and 12345, as ints that wrap")
    static void theLeastAndTheGreatestSeed(Check is) {
        StickRelay x = Relays.ofRising();
        is.due("lot(0), of LOTS 0, 12, 4", x.lot(0), 4460 - 10 + 5 - 5);
        is.due("lot(least), of LOTS 0, 12, 4", x.lot(LEAST), 4460 - 10 + 5 - 5);
        is.due("lot(greatest), of LOTS 9, 9, 6", x.lot(MOST), 4460);
        is.due("lot(-1), of LOTS 9, 9, 6", x.lot(-1), 4460);
    }

    @Edge(promise = 24, says = "TIME by a SEED: CHANGES 0 on have a SLIP by a LOT of 16 each")
    static void theThreeLotsAreThoseOfChanges0On(Check is) {
        StickRelay x = Relays.ofRising();
        x.set(LAG, 25);
        Relays.marks(x, 18, 20, 19);
        is.due("lot(0), having 10 less, 5 more, 5 less", x.lot(0), 980 + 15 + 960 + 30 + 970 + 20 + 1160);
        Relays.marks(x, 19, 20, 19);
        is.due("lot(0), 0 having 10 less", x.lot(0), NONE);
        Relays.marks(x, 18, 21, 19);
        is.due("lot(0), 1 having but 5 more", x.lot(0), NONE);
        Relays.marks(x, 18, 20, 20);
        is.due("lot(0), 2 having 5 less", x.lot(0), NONE);
    }

    @Edge(promise = 24, says = "TIME by a SEED; NONE. NOT.")
    static void outByItsLotIsNone(Check is) {
        StickRelay x = Relays.ofRising();
        x.mark(0, 18);
        is.due("lot(0) with 18 by 10 less", x.lot(0), 4460 - 10 - 100);
        x.mark(0, 19);
        is.due("lot(0) with 19 by 10 less", x.lot(0), NONE);
        for (int change = 0; change < 3; change++) {
            StickRelay y = Relays.ofRising();
            y.mark(change, 21);
            is.due("lot(5), " + change + " being OUT", y.lot(5), NONE);
        }
    }

    @Edge(promise = 24, says = "CHANGES 0 on have a SLIP by a LOT of 16 each")
    static void whatIsOutByItsToldSlipNeedNotBeByItsLot(Check is) {
        StickRelay x = marked(18);
        for (int change = 0; change < 3; change++) x.slip(change, -60);
        is.due("time()", x.time(), NONE);
        is.due("lot(5)", x.lot(5), 3 * 1000 + 10 + 1160);
        is.due("slip(2, 0)", x.slip(2, 0), -60);
    }

    @Edge(promise = 24, says = "Who is BUMPED loses BUMP hundredths.")
    static void bumpsAreLostByALotToo(Check is) {
        StickRelay x = marked(8);
        x.set(BUMP, 99);
        x.mark(0, 1);
        is.due("lot(0)", x.lot(0), 4450 + 70 + 99);
    }

    @Edge(promise = 24, says = "goes off LAG and SLIP (0 at least together)")
    static void lagAndLotTogetherBelow0Are0(Check is) {
        StickRelay x = Relays.ofRising();
        x.set(LAG, 0);
        is.due("lot(0), of SLIPS -10, 5, -5", x.lot(0), 3 * 1080 + 5 + 1160);
    }

    @Edge(promise = 24, says = "STEP (0 to 30;")
    static void theLeastAndTheGreatestStep(Check is) {
        StickRelay x = Relays.ofRising();
        x.set(STEP, 0);
        is.due("lot(0) by STEP 0", x.lot(0), 4460);
        x.set(STEP, 30);
        is.due("lot(0) by STEP 30", x.lot(0), 1080 + 1130 + 1080 + 1160);
    }

    @Edge(promise = 24, says = "somebody who RUNS is not there")
    static void whoeverIsNotThere_lot(Check is) {
        for (StickRelay x : Relays.lacking()) {
            is.due("lot(0)", x.lot(0), NOT);
            Relays.marks(x, 40, 40, 40);
            is.due("lot(0)", x.lot(0), NOT);
        }
    }

    @Edge(promise = 24, says = "TIME by a SEED; NONE. NOT.")
    static void aLotChangesNothing(Check is) {
        Whole.stays(is, "lot(3)", x -> x.lot(3));
    }

    // ---- 25: races

    @Edge(promise = 25, says = "of n (0 to 60) one behind the other")
    static void noRacesAre0(Check is) {
        is.due("races(0, 0, 99999)", Relays.ofRising().races(0, 0, 99999), 0);
    }

    @Edge(promise = 25, says = "of n (0 to 60) one behind the other")
    static void sixtyRaces(Check is) {
        is.due("races(0, 60, 99999)", Relays.ofRising().races(0, 60, 99999), 60);
        is.due("races(0, 60, 0)", Relays.ofRising().races(0, 60, 0), 0);
    }

    @Edge(promise = 25, says = "RACES. BAD; NOT.")
    static void nBelow0OrAbove60IsBad(Check is) {
        int[] beyond = {-1, 61, LEAST, MOST};
        for (int n : beyond) is.due("races(0, " + n + ", 5)", Relays.ofRising().races(0, n, 5), BAD);
    }

    @Edge(promise = 25, says = "a told TIME (0 to 99999;")
    static void theLeastAndTheGreatestTime(Check is) {
        is.due("races(0, 1, 0)", Relays.ofRising().races(0, 1, 0), 0);
        is.due("races(0, 1, 99999)", Relays.ofRising().races(0, 1, 99999), 1);
    }

    @Edge(promise = 25, says = "RACES. BAD; NOT.")
    static void aTimeBelow0OrAbove99999IsBad(Check is) {
        int[] beyond = {-1, 100000, LEAST, MOST};
        for (int most : beyond) is.due("races(0, 1, " + most + ")", Relays.ofRising().races(0, 1, most), BAD);
    }

    @Edge(promise = 25, says = "how many are run in no more than a told TIME")
    static void justTheToldTimeIsNoMore(Check is) {
        StickRelay x = Relays.ofRising();
        is.due("lot(0)", x.lot(0), 4450);
        is.due("races(0, 1, 4450)", x.races(0, 1, 4450), 1);
        is.due("races(0, 1, 4449)", x.races(0, 1, 4449), 0);
    }

    @Edge(promise = 25, says = "(0 to 99999; OUT is none)")
    static void outIsNone(Check is) {
        for (int change = 0; change < 3; change++) {
            StickRelay x = Relays.ofRising();
            x.mark(change, 40);
            is.due("races(0, 60, 99999)", x.races(0, 60, 99999), 0);
            is.due("races(0, 60, 0)", x.races(0, 60, 0), 0);
        }
    }

    /** By SEED 0 the LOTS are 0, 12, 4 (OUT by a MARK of 19 at CHANGE 0), then 5, 10, 15 (all well). */
    @Edge(promise = 25, says = "of n (0 to 60) one behind the other (the SEED going on)")
    static void theSeedGoesOnBehindARaceThatIsOut(Check is) {
        StickRelay x = Relays.ofRising();
        x.mark(0, 19);
        int[] due = new int[61];
        int seed = 0;
        for (int n = 1; n <= 60; n++) {
            due[n] = due[n - 1] + (x.lot(seed) == NONE ? 0 : 1);
            for (int lot = 0; lot < 3; lot++) seed = 1103515245 * seed + 12345;
            is.due("races(0, " + n + ", 99999)", x.races(0, n, 99999), due[n]);
        }
        is.due("the first being OUT", due[1], 0);
        is.holds("some are OUT, some are not", due[60] > 0 && due[60] < 60);
    }

    @Edge(promise = 25, says = "SEED becomes 1103515245 SEED and 12345, as ints that wrap")
    static void racesByTheLeastAndTheGreatestSeed(Check is) {
        StickRelay x = Relays.ofRising();
        is.due("races(least, 1, 4450)", x.races(LEAST, 1, 4450), 1);
        is.due("races(least, 1, 4449)", x.races(LEAST, 1, 4449), 0);
        is.due("races(greatest, 1, 4460)", x.races(MOST, 1, 4460), 1);
        is.due("races(greatest, 1, 4459)", x.races(MOST, 1, 4459), 0);
    }

    @Edge(promise = 25, says = "RACES. BAD; NOT.")
    static void badGoesAheadOfNot_races(Check is) {
        is.due("races(0, 61, 0)", new StickRelay().races(0, 61, 0), BAD);
        is.due("races(0, 0, -1)", new StickRelay().races(0, 0, -1), BAD);
        is.due("races(0, 0, 0)", new StickRelay().races(0, 0, 0), NOT);
    }

    @Edge(promise = 25, says = "somebody who RUNS is not there")
    static void whoeverIsNotThere_races(Check is) {
        for (StickRelay x : Relays.lacking()) {
            is.due("races(0, 60, 99999)", x.races(0, 60, 99999), NOT);
            is.due("races(0, 0, 0)", x.races(0, 0, 0), NOT);
        }
    }

    @Edge(promise = 25, says = "RACES. BAD; NOT.")
    static void racesChangeNothing(Check is) {
        Whole.stays(is, "races(3, 60, 4000)", x -> x.races(3, 60, 4000));
    }
}
