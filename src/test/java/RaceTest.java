/** Promises 12 to 17: what a race takes, where they MEET, what each carries. */
public final class RaceTest {
    private static final int BAD = StickRelay.BAD, NOT = StickRelay.NOT, NONE = StickRelay.NONE;
    private static final Check check = new Check();

    public static void main(String[] args) {
        takes();
        takesByTireAndBend();
        takesRefuses();
        when();
        whenByLagAndSlip();
        meet();
        meetByRules();
        meetOnBends();
        kind();
        kindBumpedInEveryZone();
        time();
        timeLosesByBumps();
        carries();
        carriesBesideOut();
        nobodyThere();
        sameOneTwice();
        check.end();
    }

    private static void takes() {
        StickRelay x = Relays.typed("101853;999991;010191");
        int[][] due = {{0, 0, 0}, {0, 1, 18}, {0, 20, 360}, {0, 21, 370}, {0, 100, 1160}, {1, 100, 9900}, {2, 36, 36}};
        for (int[] row : due) check.due("12: takes(" + row[0] + ", 1, " + row[1] + ")", x.takes(row[0], 1, row[1]), row[2]);
        StickRelay quick = Relays.typed("101803;101893");
        check.due("12: takes with RISE 0", quick.takes(0, 1, 100), 1000);
        check.due("12: takes with RISE 9", quick.takes(1, 1, 36), 648);
        check.due("12: takes with RISE 9", quick.takes(1, 1, 37), 658);
    }

    private static void takesByTireAndBend() {
        StickRelay x = Relays.typed("101853");
        x.set(4, 3);
        int[] bent = {1460, 1160, 1460, 1160};
        for (int s = 0; s < 4; s++) check.due("12: takes on " + s + " by BEND", x.takes(0, s, 100), bent[s]);
        x.set(3, 2);
        for (int s = 0; s < 4; s++) check.due("12: takes on " + s + " by TIRE", x.takes(0, s, 100), bent[s] + 200);
        check.due("12: takes of one yard", x.takes(0, 2, 1), 23);
        x.set(4, 0);
        x.set(3, 0);
        for (int s = 0; s < 4; s++) check.due("12: takes on " + s, x.takes(0, s, 100), 1160);
    }

    private static void takesRefuses() {
        StickRelay x = Relays.typed("101853");
        int[][] bad = {{1, 0, 5}, {-1, 0, 5}, {0, 4, 5}, {0, -1, 5}, {0, 0, -1}, {0, 0, 101}};
        for (int[] row : bad) check.due("12: takes, BAD", x.takes(row[0], row[1], row[2]), BAD);
        x.type('1');
        check.due("12: takes with a FAULT", x.takes(0, 0, 5), BAD);
    }

    private static void when() {
        StickRelay x = Relays.ofRising();
        for (int s = 0; s < 4; s++) {
            check.due("13: when(" + s + ", 0)", x.when(s, 0), 1100 * s);
            check.due("13: when(" + s + ", 1)", x.when(s, 1), 1100 * s + 1160);
        }
        x.mark(1, 40);
        check.due("13: when(2, 0)", x.when(2, 0), 1100 + 780);
        x.mark(1, 0);
        check.due("13: when(2, 0)", x.when(2, 0), 1100 + 1180);
        check.due("13: when(1, 1)", x.when(1, 1), 2260);
        int[][] bad = {{4, 0}, {-1, 0}, {0, 2}, {0, -1}};
        for (int[] row : bad) check.due("13: when, BAD", x.when(row[0], row[1]), BAD);
        StickRelay bumped = Relays.ofEven();
        Relays.marks(bumped, 3, 3, 3);
        check.due("13: BUMPS aside", bumped.when(3, 1), 3 * 990 + 1000);
    }

    private static void whenByLagAndSlip() {
        StickRelay x = Relays.ofRising();
        x.set(2, 35);
        check.due("13: when(1, 0) by LAG", x.when(1, 0), 1115);
        x.slip(0, -34);
        check.due("13: when(1, 0) by SLIP", x.when(1, 0), 1081);
        x.slip(0, -35);
        check.due("13: when(1, 0), together 0", x.when(1, 0), 1080);
        x.slip(0, -60);
        check.due("13: when(1, 0), 0 at least", x.when(1, 0), 1080);
        x.slip(0, 60);
        check.due("13: when(1, 0), late", x.when(1, 0), 1175);
        check.due("13: when(2, 0)", x.when(2, 0), 1175 + 1115);
    }

    /** They MEET at the first x with 30 and 8 x (of 20 at most) no less than 10 times the MARK. */
    private static void meet() {
        StickRelay x = Relays.ofRising();
        int[][] due = {{0, 0}, {3, 0}, {4, 2}, {8, 7}, {16, 17}, {17, 18}, {18, 19}, {19, 20}, {20, NONE}, {40, NONE}};
        for (int[] row : due) {
            for (int change = 0; change < 3; change++) {
                x.mark(change, row[0]);
                check.due("14: meet(" + change + ") by MARK " + row[0], x.meet(change), row[1]);
            }
        }
        check.due("14: meet(3)", x.meet(3), BAD);
        check.due("14: meet(-1)", x.meet(-1), BAD);
    }

    private static void meetByRules() {
        StickRelay x = Relays.ofRising();
        x.set(1, 0);
        check.due("14: meet(0) by REACH 0", x.meet(0), 8);
        x.set(1, 5);
        check.due("14: meet(0) by REACH 5", x.meet(0), 2);
        x.set(1, 1);
        x.slip(0, -30);
        check.due("14: meet(0) by SLIP", x.meet(0), 9);
        x.slip(0, 25);
        check.due("14: meet(0) by SLIP", x.meet(0), 4);
        x.slip(0, 0);
        x.set(0, 7);
        check.due("14: meet(0) at the end of the ZONE", x.meet(0), 7);
        x.set(0, 6);
        check.due("14: meet(0) behind the ZONE", x.meet(0), NONE);
    }

    /** By BEND 3: 33 and 5 x against 13 times the MARK, then 30 and 11 x against 10 times. */
    private static void meetOnBends() {
        StickRelay x = Relays.ofRising();
        x.set(4, 3);
        check.due("14: meet(0) by BEND", x.meet(0), 15);
        check.due("14: meet(1) by BEND", x.meet(1), 5);
        check.due("14: when(1, 0) by BEND", x.when(1, 0), 1460 - 104 + 20);
        x.set(4, 0);
        x.set(3, 2);
        check.due("14: meet(0) by TIRE", x.meet(0), 8);
    }

    private static void kind() {
        StickRelay x = Relays.ofRising();
        int[][] due = {{0, 2}, {3, 2}, {4, 0}, {16, 0}, {17, 1}, {18, 1}, {19, 1}, {20, 3}, {40, 3}};
        for (int[] row : due) {
            for (int change = 0; change < 3; change++) {
                x.mark(change, row[0]);
                check.due("15: kind(" + change + ") by MARK " + row[0], x.kind(change), row[1]);
            }
        }
        check.due("15: kind(3)", x.kind(3), BAD);
        check.due("15: kind(-1)", x.kind(-1), BAD);
        x.mark(0, 8);
        x.set(0, 9);
        check.due("15: kind(0) with x 7 of 9", x.kind(0), 1);
        x.set(0, 10);
        check.due("15: kind(0) with x 7 of 10", x.kind(0), 0);
    }

    private static void kindBumpedInEveryZone() {
        StickRelay x = Relays.ofEven();
        x.mark(0, 3);
        for (int zone = 5; zone <= 30; zone++) {
            x.set(0, zone);
            check.due("15: kind(0) by ZONE " + zone, x.kind(0), 2);
        }
    }

    private static void time() {
        StickRelay x = Relays.ofRising();
        check.due("16: time()", x.time(), 4460);
        Relays.marks(x, 19, 19, 19);
        check.due("16: time()", x.time(), 3 * 990 + 1160);
        for (int change = 0; change < 3; change++) {
            x.mark(change, 20);
            check.due("16: time() with one OUT", x.time(), NONE);
            x.mark(change, 19);
        }
    }

    private static void timeLosesByBumps() {
        StickRelay x = Relays.ofEven();
        Relays.marks(x, 3, 3, 3);
        check.due("16: time() with BUMPS", x.time(), 3970 + 90);
        x.set(5, 0);
        check.due("16: time(), nothing lost", x.time(), 3970);
        x.set(5, 99);
        check.due("16: time(), more lost", x.time(), 3970 + 297);
        StickRelay once = Relays.ofRising();
        once.mark(1, 3);
        check.due("16: time() with a BUMP", once.time(), 1100 + 1150 + 1100 + 1160 + 30);
    }

    private static void carries() {
        StickRelay x = Relays.ofRising();
        Relays.marks(x, 8, 4, 19);
        int[] due = {107, 95, 118, 80};
        for (int s = 0; s < 4; s++) check.due("17: carries(" + s + ")", x.carries(s), due[s]);
        check.due("17: carries(4)", x.carries(4), BAD);
        check.due("17: carries(-1)", x.carries(-1), BAD);
    }

    private static void carriesBesideOut() {
        int[][] due = {{NONE, NONE, 100, 93}, {107, NONE, NONE, 93}, {107, 100, NONE, NONE}};
        for (int change = 0; change < 3; change++) {
            StickRelay x = Relays.ofRising();
            x.mark(change, 20);
            for (int s = 0; s < 4; s++) {
                check.due("17: carries(" + s + "), " + change + " is OUT", x.carries(s), due[change][s]);
            }
        }
    }

    /** Whoever of the four is not there: NOT, behind BAD. */
    private static void nobodyThere() {
        for (int stretch = 0; stretch < 4; stretch++) {
            StickRelay x = Relays.ofRising();
            x.runs(stretch, 4);
            for (int s = 0; s < 4; s++) {
                check.due("13: when(" + s + ", 1)", x.when(s, 1), NOT);
                check.due("17: carries(" + s + ")", x.carries(s), NOT);
            }
            for (int change = 0; change < 3; change++) {
                check.due("14: meet(" + change + ")", x.meet(change), NOT);
                check.due("15: kind(" + change + ")", x.kind(change), NOT);
            }
            check.due("16: time()", x.time(), NOT);
            check.due("13: when(4, 0)", x.when(4, 0), BAD);
            check.due("13: when(0, 2)", x.when(0, 2), BAD);
            check.due("14: meet(3)", x.meet(3), BAD);
            check.due("15: kind(3)", x.kind(3), BAD);
            check.due("17: carries(4)", x.carries(4), BAD);
            Relays.type(x, ";" + Relays.RISING);
            check.due("16: time() with the fifth", x.time(), 4460);
        }
    }

    private static void sameOneTwice() {
        StickRelay x = Relays.typed(Relays.RISING);
        for (int s = 0; s < 4; s++) x.runs(s, 0);
        check.due("16: time() of one alone", x.time(), 4460);
        check.due("count(6) of one alone", x.count(6), 1);
    }
}
