import java.util.function.Supplier;

/** What refusals answer, each by its kind, and what they and questions leave as it was: see also Whole.stays elsewhere. */
final class EdgesOfRefusals {
    private static final int SIZE = 5;

    private EdgesOfRefusals() {
    }

    /** As Whole.rich(), but with so long a text, and so nobody there. */
    private static StickRelay withText(int bytes) {
        StickRelay x = Whole.rich();
        x.wipe();
        for (int i = 0; i < bytes; i++) x.type('1');
        return x;
    }

    private static void askAll(StickRelay x) {
        for (int i = -1; i <= 4; i++) {
            x.runner(i, 0);
            x.takes(i, i, 50);
            x.when(i, 1);
            x.meet(i);
            x.kind(i);
            x.carries(i);
            x.chance(i);
            x.all(i);
            x.safe(i, 10);
            x.best(i);
            x.order(i, 5);
            x.blame(i, 5);
            x.count(i);
        }
        x.fault();
        x.time();
        x.lot(7);
        x.races(7, 60, 5000);
        x.digest();
    }

    private static void askedAllStays(Check is, String whom, Supplier<StickRelay> made) {
        Whole.stays(is, "all questions to " + whom, made, EdgesOfRefusals::askAll, SIZE);
    }

    @Edge(promise = 2, says = "They change nothing")
    static void fullChangesNothing(Check is) {
        Whole.stays(is, "type('1')", () -> withText(40), x -> x.type('1'), SIZE);
        StickRelay x = Relays.typed(Relays.times(5, Relays.RISING) + ";10185");
        is.due("type('x')", x.type('x'), StickRelay.FULL);
        is.due("fault()", x.fault(), 35);
        for (int left = 39; left >= 34; left--) is.due("undo()", x.undo(), left);
        is.due("digest()", x.digest(), Relays.typed(Relays.times(5, Relays.RISING)).digest());
    }

    @Edge(promise = 2, says = "They change nothing")
    static void aBadByteChangesNothing(Check is) {
        Whole.stays(is, "type(256)", x -> x.type(256));
        Whole.stays(is, "type(-1)", x -> x.type(-1));
    }

    @Edge(promise = 4, says = "They change nothing")
    static void undoOfNoneChangesNothing(Check is) {
        Whole.stays(is, "undo()", () -> withText(0), StickRelay::undo, SIZE);
    }

    @Edge(promise = 31, says = "They change nothing")
    static void writeThatIsNotChangesNothing(Check is) {
        Whole.stays(is, "write(1)", () -> withText(0), x -> x.write(1), SIZE);
    }

    @Edge(promise = 13, says = "They change nothing")
    static void questionsThatAreAnsweredChangeNothing(Check is) {
        askedAllStays(is, "five", Whole::rich);
    }

    @Edge(promise = 13, says = "They change nothing")
    static void questionsThatAreRefusedChangeNothing(Check is) {
        askedAllStays(is, "nobody", () -> withText(0));
        askedAllStays(is, "nobody, by a FAULT", () -> withText(7));
    }

    @Edge(promise = 32, says = "FINDINGS (answers -10 less the number; they change nothing but count() 8)")
    static void eachFindingAnswers10LessItsNumber(Check is) {
        StickRelay x = Whole.rich();
        is.due("NULL", x.lose(3), -10 - 1);
        is.due("INDEX", x.lay(0, 0, 3, 5), -10 - 2);
        is.due("CAST", x.lay(0, 1, 0, 5), -10 - 3);
        is.due("STORE", x.copy(0, 0, 1, 0, 1), -10 - 4);
        is.due("SIZE", x.sheet(0, 0, -1), -10 - 5);
        is.holds("they change nothing else", Whole.of(x).equals(Whole.of(Whole.rich())));
    }

    @Edge(promise = 32, says = "1 NULL: the SHEET is LOST")
    static void nullOfEachCallOnALostSheet(Check is) {
        for (int s = 0; s < 4; s++) {
            StickRelay x = new StickRelay();
            int[] answers = {x.read(s), x.lose(s), x.lay(s, 0, 0, 5), x.copy(s, 0, s, 0, 0), x.write(s)};
            for (int answer : answers) is.due("of SHEET " + s, answer, -11);
            is.due("sheet(" + s + ", 0, 0) alone is well", x.sheet(s, 0, 0), 0);
        }
    }

    @Edge(promise = 32, says = "4 STORE: unlike FORMS")
    static void storeOfEachTwoForms(Check is) {
        StickRelay x = Whole.rich();
        for (int s = 0; s < 3; s++) {
            for (int t = 0; t < 3; t++) is.due("copy(" + s + ", 0, " + t + ", 0, 0)", x.copy(s, 0, t, 0, 0), s == t ? 1 : -14);
        }
    }

    @Edge(promise = 19, says = "Where the answer is a long, a refusal -x is the least long and x more")
    static void aRefusalAsALong(Check is) {
        is.due("all(2)", new StickRelay().all(2), Long.MIN_VALUE - StickRelay.BAD);
        is.due("all(0)", new StickRelay().all(0), Long.MIN_VALUE - StickRelay.NOT);
    }

    @Edge(promise = 10, says = "where any number is told, it is -1000 less x")
    static void aRefusalWhereAnyNumberIsTold(Check is) {
        is.due("slip(3, 0)", new StickRelay().slip(3, 0), -1000 + StickRelay.BAD);
        is.due("slip(0, 61)", new StickRelay().slip(0, 61), -1000 + StickRelay.BAD);
    }

    @Edge(promise = 30, says = "Refusals, the first that fits, in the order told at each act")
    static void theFirstThatFitsOfAllThatFit(Check is) {
        StickRelay x = Whole.rich();
        is.due("copy: BAD, NULL, STORE, INDEX", x.copy(4, -1, 3, -1, -1), StickRelay.BAD);
        is.due("copy: NULL, STORE, INDEX", x.copy(1, -1, 3, -1, -1), -11);
        is.due("copy: STORE, INDEX", x.copy(1, -1, 2, -1, -1), -14);
        is.due("copy: INDEX", x.copy(1, -1, 1, -1, -1), -12);
        is.due("count(8)", x.count(8), 2);
    }
}
