import java.util.function.Supplier;

/** What refusals and questions leave as it was, where they are no FINDINGS: see also Whole.stays elsewhere. */
final class EdgesOfRefusals {
    private static final int SIZE = 5;

    private EdgesOfRefusals() {
    }

    /** As Whole.rich(), but with so long a text, and so nobody there. */
    private static StickRelay withText(int bytes) {
        StickRelay x = Whole.rich();
        x.wipe();
        for (int i = 0; i < bytes; i++) x.type('1');
        return x;
    }

    private static void askAll(StickRelay x) {
        for (int i = -1; i <= 4; i++) {
            x.runner(i, 0);
            x.takes(i, i, 50);
            x.when(i, 1);
            x.meet(i);
            x.kind(i);
            x.carries(i);
            x.chance(i);
            x.all(i);
            x.safe(i, 10);
            x.best(i);
            x.order(i, 5);
            x.blame(i, 5);
            x.count(i);
        }
        x.fault();
        x.time();
        x.lot(7);
        x.races(7, 60, 5000);
        x.digest();
    }

    private static void askedAllStays(Check is, String whom, Supplier<StickRelay> made) {
        Whole.stays(is, "all questions to " + whom, made, EdgesOfRefusals::askAll, SIZE);
    }

    @Edge(promise = 2, says = "They change nothing")
    static void fullChangesNothing(Check is) {
        Whole.stays(is, "type('1')", () -> withText(40), x -> x.type('1'), SIZE);
        StickRelay x = Relays.typed(Relays.times(5, Relays.RISING) + ";10185");
        is.due("type('x')", x.type('x'), StickRelay.FULL);
        is.due("fault()", x.fault(), 35);
        for (int left = 39; left >= 34; left--) is.due("undo()", x.undo(), left);
        is.due("digest()", x.digest(), Relays.typed(Relays.times(5, Relays.RISING)).digest());
    }

    @Edge(promise = 2, says = "They change nothing")
    static void aBadByteChangesNothing(Check is) {
        Whole.stays(is, "type(256)", x -> x.type(256));
        Whole.stays(is, "type(-1)", x -> x.type(-1));
    }

    @Edge(promise = 4, says = "They change nothing")
    static void undoOfNoneChangesNothing(Check is) {
        Whole.stays(is, "undo()", () -> withText(0), StickRelay::undo, SIZE);
    }

    @Edge(promise = 31, says = "They change nothing")
    static void writeThatIsNotChangesNothing(Check is) {
        Whole.stays(is, "write(1)", () -> withText(0), x -> x.write(1), SIZE);
    }

    @Edge(promise = 13, says = "They change nothing")
    static void questionsThatAreAnsweredChangeNothing(Check is) {
        askedAllStays(is, "five", Whole::rich);
    }

    @Edge(promise = 13, says = "They change nothing")
    static void questionsThatAreRefusedChangeNothing(Check is) {
        askedAllStays(is, "nobody", () -> withText(0));
        askedAllStays(is, "nobody, by a FAULT", () -> withText(7));
    }

    @Edge(promise = 10, says = "slip(int change, int v)")
    static void refusalsAsToldOfEachKindOfAnswer(Check is) {
        StickRelay x = new StickRelay();
        is.due("as an int", x.mark(3, 0), StickRelay.BAD);
        is.due("as any number", x.slip(3, 0), -1000 + StickRelay.BAD);
        is.due("as a long", x.all(2), Long.MIN_VALUE - StickRelay.BAD);
        is.due("as an item", x.get(4, 0, 0), Integer.MIN_VALUE);
    }
}
