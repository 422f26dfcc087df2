/** Promises 18 to 25: odds, MARKS, orders, blame, LOTS and races. */
public final class OddsTest {
    private static final int BAD = StickRelay.BAD, NOT = StickRelay.NOT, NONE = StickRelay.NONE;
    private static final Check check = new Check();

    public static void main(String[] args) {
        chance();
        chanceOfWideSteps();
        all();
        safe();
        best();
        bestOfBumped();
        orderOfLikeOnes();
        orderByHands();
        orderBySpeed();
        orderByRulesAlone();
        orderRefuses();
        blame();
        lot();
        races();
        nobodyThere();
        check.end();
    }

    /** By STEP 5 the greatest MARKS that are not OUT are 18, 18, 19, 19, 20. */
    private static void chance() {
        int[][] due = {{0, 16}, {8, 16}, {18, 16}, {19, 11}, {20, 1}, {21, 0}, {40, 0}};
        for (int change = 0; change < 3; change++) {
            StickRelay x = Relays.ofRising();
            for (int[] row : due) {
                x.mark(change, row[0]);
                check.due("18: chance(" + change + ") by MARK " + row[0], x.chance(change), row[1]);
            }
            x.slip(change, -60);
            x.mark(change, 19);
            check.due("18: whatever SLIP is told", x.chance(change), 11);
            x.set(6, 0);
            check.due("18: chance(" + change + ") by STEP 0", x.chance(change), 16);
        }
        check.due("18: chance(3)", Relays.ofRising().chance(3), BAD);
        check.due("18: chance(-1)", Relays.ofRising().chance(-1), BAD);
    }

    /** By STEP 30 they are 17, 17, 19, 22, 25; by STEP 5 and LAG 25 they are 18, 19, 19, 20, 20. */
    private static void chanceOfWideSteps() {
        StickRelay x = Relays.ofRising();
        x.set(6, 30);
        int[][] due = {{17, 16}, {18, 11}, {19, 11}, {20, 5}, {22, 5}, {23, 1}, {25, 1}, {26, 0}};
        for (int[] row : due) {
            x.mark(0, row[0]);
            check.due("18: chance(0) by STEP 30, MARK " + row[0], x.chance(0), row[1]);
        }
        x.set(6, 5);
        x.set(2, 25);
        x.mark(0, 19);
        check.due("18: chance(0) by LAG 25", x.chance(0), 15);
    }

    private static void all() {
        int[][] due = {{8, 8, 8, 1, 1}, {19, 8, 8, 11, 16}, {8, 20, 19, 11, 256}, {20, 20, 20, 1, 4096}, {8, 8, 21, 0, 1}, {20, 21, 8, 0, 1}};
        for (int[] row : due) {
            StickRelay x = Relays.ofRising();
            Relays.marks(x, row[0], row[1], row[2]);
            check.due("19: all(0)", x.all(0), row[3]);
            check.due("19: all(1)", x.all(1), row[4]);
        }
        check.due("19: all(2)", Relays.ofRising().all(2), Long.MIN_VALUE + 2);
        check.due("19: all(-1)", Relays.ofRising().all(-1), Long.MIN_VALUE + 2);
    }

    private static void safe() {
        StickRelay x = Relays.ofRising();
        int[][] due = {{16, 18}, {12, 18}, {11, 19}, {2, 19}, {1, 20}, {0, 40}};
        for (int change = 0; change < 3; change++) {
            x.slip(change, 50);
            x.mark(change, 33);
            for (int[] row : due) check.due("20: safe(" + change + ", " + row[0] + ")", x.safe(change, row[0]), row[1]);
        }
        int[][] bad = {{3, 0}, {-1, 0}, {0, 17}, {0, -1}};
        for (int[] row : bad) check.due("20: safe, BAD", x.safe(row[0], row[1]), BAD);
    }

    private static void best() {
        StickRelay x = Relays.ofRising();
        x.mark(0, 40);
        for (int change = 0; change < 3; change++) {
            check.due("21: best(" + change + "), another being OUT", x.best(change), 19);
            x.slip(change, 10);
            check.due("21: best(" + change + ") by its SLIP", x.best(change), 20);
            x.slip(change, -60);
            check.due("21: best(" + change + ") by LAG and SLIP 0", x.best(change), 17);
        }
        check.due("21: the MARK stays", x.count(3), 40);
        check.due("21: best(3)", x.best(3), BAD);
        check.due("21: best(-1)", x.best(-1), BAD);
    }

    private static void bestOfBumped() {
        StickRelay x = Relays.ofEven();
        check.due("21: best(0), BUMPED by each", x.best(0), 3);
        x.set(2, 0);
        x.set(1, 0);
        check.due("21: best(0), none but 0", x.best(0), 0);
        StickRelay far = Relays.typed("010103;019993;019993;019993");
        far.set(0, 30);
        check.due("21: best(0), the greatest of all", far.best(0), 40);
    }

    private static void orders(String what, StickRelay x, int without, int... due) {
        for (int i = 0; i < 8; i++) check.due("22: " + what + ": order(" + without + ", " + i + ")", x.order(without, i), due[i]);
    }

    private static void orderOfLikeOnes() {
        StickRelay x = Relays.ofRising();
        orders("four", x, NONE, 4130, 0, 1, 2, 3, 19, 19, 19);
        orders("four, one not there", x, 4, 4130, 0, 1, 2, 3, 19, 19, 19);
        Relays.type(x, ";" + Relays.RISING);
        orders("five", x, NONE, 4130, 0, 1, 2, 3, 19, 19, 19);
        orders("five", x, 0, 4130, 1, 2, 3, 4, 19, 19, 19);
        orders("five", x, 2, 4130, 0, 1, 3, 4, 19, 19, 19);
        orders("five", x, 4, 4130, 0, 1, 2, 3, 19, 19, 19);
        x.wipe();
        orders("nobody", x, NONE, -1, -1, -1, -1, -1, -1, -1, -1);
        Relays.type(x, Relays.times(3, Relays.RISING));
        orders("three", x, NONE, -1, -1, -1, -1, -1, -1, -1, -1);
        Relays.type(x, ";" + Relays.RISING);
        orders("three are left", x, 3, -1, -1, -1, -1, -1, -1, -1, -1);
    }

    private static StickRelay byHands(String hands) {
        StringBuilder text = new StringBuilder();
        for (int i = 0; i < hands.length(); i++) text.append(i == 0 ? "" : ";").append("10185").append(hands.charAt(i));
        return Relays.typed(text.toString());
    }

    private static void orderByHands() {
        orders("1122", byHands("1122"), NONE, 4130, 0, 2, 1, 3, 19, 19, 19);
        orders("2211", byHands("2211"), NONE, 4130, 0, 2, 1, 3, 19, 19, 19);
        orders("1212", byHands("1212"), NONE, 4130, 0, 1, 2, 3, 19, 19, 19);
        orders("1323", byHands("1323"), NONE, 4130, 0, 1, 3, 2, 19, 19, 19);
        orders("1113", byHands("1113"), NONE, -1, -1, -1, -1, -1, -1, -1, -1);
        orders("1133", byHands("1133"), NONE, 4130, 0, 2, 1, 3, 19, 19, 19);
        orders("11122", byHands("11122"), NONE, 4130, 0, 3, 1, 4, 19, 19, 19);
        orders("11122", byHands("11122"), 0, 4130, 1, 3, 2, 4, 19, 19, 19);
        orders("11122", byHands("11122"), 3, -1, -1, -1, -1, -1, -1, -1, -1);
    }

    /** Without RISE, REACH and LAG a MARK is 0, but for a slower one who goes: 20 times 10 is 10 times 20. */
    private static void orderBySpeed() {
        StickRelay x = Relays.typed("202003;202003;202003;202003;303003");
        x.set(1, 0);
        x.set(2, 0);
        x.set(5, 0);
        orders("the slow one stays", x, NONE, 8000, 0, 1, 2, 3, 0, 0, 0);
        orders("the slow one is last", x, 1, 8800, 0, 2, 3, 4, 0, 0, 10);
        StickRelay late = Relays.typed("303003;202003;202003;202003;202003");
        late.set(1, 0);
        late.set(2, 0);
        late.set(5, 7);
        orders("the slow one stays", late, NONE, 8021, 1, 2, 3, 4, 0, 0, 0);
    }

    private static void orderByRulesAlone() {
        StickRelay x = Relays.ofRising();
        Relays.marks(x, 40, 40, 40);
        x.slip(0, 60);
        x.slip(1, -60);
        for (int s = 0; s < 4; s++) x.runs(s, 4);
        orders("whoever RUNS", x, NONE, 4130, 0, 1, 2, 3, 19, 19, 19);
        StickRelay bumped = Relays.ofEven();
        orders("BUMPED", bumped, NONE, 4060, 0, 1, 2, 3, 3, 3, 3);
    }

    private static void orderRefuses() {
        int[][] bad = {{-2, 0}, {5, 0}, {-1, 8}, {-1, -1}};
        for (int[] row : bad) check.due("22: order, BAD", Relays.ofRising().order(row[0], row[1]), BAD);
        check.due("22: order with a FAULT", Relays.typed(Relays.times(4, Relays.RISING) + ";").order(NONE, 0), NONE);
    }

    private static void blame() {
        StickRelay x = Relays.ofRising();
        int[] due = {0, 0, 0, 0, 0, 16, 8, 6, 1, 0};
        for (int change = 0; change < 3; change++) {
            x.slip(change, 44);
            for (int at = 0; at < due.length; at++) check.due("23: blame(" + change + ", " + at + ")", x.blame(change, at), due[at]);
            check.due("23: blame(" + change + ", 20)", x.blame(change, 20), 0);
            check.due("23: blame(" + change + ", 21)", x.blame(change, 21), BAD);
            check.due("23: blame(" + change + ", -1)", x.blame(change, -1), BAD);
        }
        check.due("23: blame(3, 0)", x.blame(3, 0), BAD);
        check.due("23: blame(-1, 0)", x.blame(-1, 0), BAD);
        x.set(6, 0);
        check.due("23: blame by STEP 0", x.blame(0, 7), 31);
        x.mark(0, 3);
        check.due("23: blame of a BUMP", x.blame(0, 0), 31);
        x.set(0, 30);
        check.due("23: blame at the end of the ZONE", x.blame(0, 30), 0);
    }

    /** By seed 0 the LOTS are 0, 12, 4: SLIPS of -2, 1, -1 times STEP. */
    private static void lot() {
        StickRelay x = Relays.ofRising();
        check.due("24: lot(0)", x.lot(0), 3 * 1080 + 10 + 25 + 15 + 1160);
        check.due("24: lot(0) again", x.lot(0), 4450);
        x.slip(0, 60);
        check.due("24: lot(0), whatever SLIP is told", x.lot(0), 4450);
        x.set(6, 0);
        check.due("24: lot(0) by STEP 0", x.lot(0), 4460);
        x.set(6, 5);
        x.mark(0, 18);
        check.due("24: lot(0), not OUT", x.lot(0), 4350);
        x.mark(0, 19);
        check.due("24: lot(0), OUT", x.lot(0), NONE);
        x.set(5, 99);
        x.mark(0, 1);
        check.due("24: lot(0) with a BUMP", x.lot(0), 4450 + 70 + 99);
    }

    private static void races() {
        StickRelay x = Relays.ofRising();
        check.due("25: races(0, 1, 4450)", x.races(0, 1, 4450), 1);
        check.due("25: races(0, 1, 4449)", x.races(0, 1, 4449), 0);
        check.due("25: races(0, 0, 99999)", x.races(0, 0, 99999), 0);
        check.due("25: races(0, 60, 99999)", x.races(0, 60, 99999), 60);
        check.due("25: races(0, 60, 0)", x.races(0, 60, 0), 0);
        int[][] bad = {{61, 0}, {-1, 0}, {0, -1}, {0, 100000}};
        for (int[] row : bad) check.due("25: races, BAD", x.races(0, row[0], row[1]), BAD);
        x.mark(1, 40);
        check.due("25: races, all OUT", x.races(0, 60, 99999), 0);
        seedGoesOn();
    }

    /** Three LOTS belong to each race, even where the first CHANGE is OUT. */
    private static void seedGoesOn() {
        for (int mark = 17; mark <= 20; mark++) {
            StickRelay x = Relays.ofRising();
            x.mark(0, mark);
            int seed = -77;
            int run = 0;
            int fast = 0;
            for (int n = 1; n <= 60; n++) {
                int time = x.lot(seed);
                if (time != NONE) run++;
                if (time != NONE && time <= 4340) fast++;
                for (int i = 0; i < 3; i++) seed = 1103515245 * seed + 12345;
                check.due("25: races(-77, " + n + ", 99999)", x.races(-77, n, 99999), run);
                check.due("25: races(-77, " + n + ", 4340)", x.races(-77, n, 4340), fast);
            }
        }
    }

    private static void nobodyThere() {
        for (int stretch = 0; stretch < 4; stretch++) {
            StickRelay x = Relays.ofRising();
            x.runs(stretch, 4);
            for (int change = 0; change < 3; change++) {
                check.due("18: chance(" + change + ")", x.chance(change), NOT);
                check.due("20: safe(" + change + ", 0)", x.safe(change, 0), NOT);
                check.due("21: best(" + change + ")", x.best(change), NOT);
                check.due("23: blame(" + change + ", 0)", x.blame(change, 0), NOT);
            }
            check.due("19: all(0)", x.all(0), Long.MIN_VALUE + 3);
            check.due("19: all(1)", x.all(1), Long.MIN_VALUE + 3);
            check.due("24: lot(1)", x.lot(1), NOT);
            check.due("25: races(1, 0, 0)", x.races(1, 0, 0), NOT);
            check.due("18: chance(3)", x.chance(3), BAD);
            check.due("19: all(2)", x.all(2), Long.MIN_VALUE + 2);
            check.due("20: safe(0, 17)", x.safe(0, 17), BAD);
            check.due("21: best(3)", x.best(3), BAD);
            check.due("23: blame(0, 21)", x.blame(0, 21), BAD);
            check.due("25: races(1, 61, 0)", x.races(1, 61, 0), BAD);
        }
    }
}
