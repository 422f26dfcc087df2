import java.math.BigInteger;
import java.util.Arrays;

/** Boundary cases of promises 32 and 33: counts and the digest. */
final class EdgesOfTelling {
    private static final int BAD = StickRelay.BAD, NOT = StickRelay.NOT, NONE = StickRelay.NONE;
    private static final int LEAST = Integer.MIN_VALUE, MOST = Integer.MAX_VALUE;
    private static final long NOT_AS_A_LONG = Long.MIN_VALUE + 3;

    private EdgesOfTelling() {
    }

    // ---- 32: count

    @Edge(promise = 32, says = "8 the number of the latest FINDING (0 before any). BAD.")
    static void whatBelow0OrAbove8IsBad(Check is) {
        int[] beyond = {-1, 9, LEAST, MOST};
        for (int what : beyond) {
            is.due("count(" + what + ")", new StickRelay().count(what), BAD);
            is.due("count(" + what + ")", Whole.rich().count(what), BAD);
        }
    }

    @Edge(promise = 32, says = "0 RUNNERS, 1 bytes")
    static void fromNoneToAll(Check is) {
        StickRelay x = new StickRelay();
        is.due("count(0)", x.count(0), 0);
        is.due("count(1)", x.count(1), 0);
        Relays.type(x, Relays.times(5, Relays.RISING));
        is.due("count(0)", x.count(0), 5);
        is.due("count(1)", x.count(1), 34);
        Relays.type(x, ";10185");
        is.due("count(0) with a FAULT", x.count(0), 0);
        is.due("count(1) with a FAULT", x.count(1), 40);
    }

    @Edge(promise = 32, says = "2 ZONE, 3 to 5 MARKS of CHANGES 0 to 2, 6 unlike ones who RUN, 7 LAG")
    static void theLeastAndTheGreatestOfEach(Check is) {
        StickRelay x = new StickRelay();
        x.set(0, 5);
        x.set(2, 0);
        Relays.marks(x, 0, 40, 0);
        int[] low = {5, 0, 40, 0, 4, 0};
        for (int i = 0; i < low.length; i++) is.due("count(" + (2 + i) + ")", x.count(2 + i), low[i]);
        x.set(0, 30);
        x.set(2, 99);
        Relays.marks(x, 40, 0, 40);
        int[] high = {30, 40, 0, 40, 4, 99};
        for (int i = 0; i < high.length; i++) is.due("count(" + (2 + i) + ")", x.count(2 + i), high[i]);
    }

    @Edge(promise = 32, says = "6 unlike ones who RUN")
    static void unlikeOnesFrom1To4ThereOrNot(Check is) {
        StickRelay x = new StickRelay();
        is.due("count(6) of 0, 1, 2, 3", x.count(6), 4);
        x.runs(3, 0);
        is.due("count(6) of 0, 1, 2, 0", x.count(6), 3);
        x.runs(2, 1);
        is.due("count(6) of 0, 1, 1, 0", x.count(6), 2);
        x.runs(1, 0);
        x.runs(2, 0);
        is.due("count(6) of 0, 0, 0, 0", x.count(6), 1);
        for (int stretch = 0; stretch < 4; stretch++) x.runs(stretch, 4);
        is.due("count(6) of 4, 4, 4, 4", x.count(6), 1);
    }

    @Edge(promise = 32, says = "8 the number of the latest FINDING (0 before any).")
    static void eachFindingAndTheLatestOne(Check is) {
        StickRelay x = new StickRelay();
        is.due("count(8) before any", x.count(8), 0);
        x.sheet(0, 0, 2);
        x.sheet(1, 1, 2);
        x.lose(3);
        is.due("count(8) by NULL", x.count(8), 1);
        x.lay(0, 0, 2, 5);
        is.due("count(8) by INDEX", x.count(8), 2);
        x.lay(0, 1, 0, 5);
        is.due("count(8) by CAST", x.count(8), 3);
        x.copy(0, 0, 1, 0, 1);
        is.due("count(8) by STORE", x.count(8), 4);
        x.sheet(0, 0, -1);
        is.due("count(8) by SIZE", x.count(8), 5);
        x.lose(3);
        is.due("count(8) by NULL again", x.count(8), 1);
    }

    @Edge(promise = 32, says = "8 the number of the latest FINDING (0 before any).")
    static void whatIsWellOrNoFindingLeavesIt(Check is) {
        StickRelay x = Relays.ofRising();
        x.lay(0, 0, 0, 5);
        x.sheet(0, 0, 1);
        x.lay(0, 0, 0, 5);
        x.get(0, 0, 0);
        x.write(0);
        x.read(0);
        x.copy(0, 0, 0, 0, 1);
        x.lose(0);
        x.sheet(9, 9, 99);
        x.runs(0, 4);
        x.time();
        is.due("count(8)", x.count(8), 1);
    }

    // ---- 33: digest

    /** Without any wrapping, as all numbers would stand. */
    private static BigInteger mixed(long... told) {
        BigInteger h = BigInteger.valueOf(17);
        for (long one : told) h = h.multiply(BigInteger.valueOf(31)).add(BigInteger.valueOf(one));
        return h;
    }

    private static long[] joined(long[]... rows) {
        return Arrays.stream(rows).flatMapToLong(Arrays::stream).toArray();
    }

    private static long[] times(int n, long... row) {
        long[][] rows = new long[n][];
        Arrays.fill(rows, row);
        return joined(rows);
    }

    private static long[] row(long... told) {
        return told;
    }

    /** What is told of STRETCHES and CHANGES where somebody is not there, and behind it. */
    private static long[] lackingSomebody() {
        return joined(times(4 * 3 + 3 * 6 + 1, NOT), times(2, NOT_AS_A_LONG), times(8 + 1, NONE), times(2, NOT));
    }

    private static BigInteger ofNew() {
        return mixed(joined(row(0, 0, 20, 8, 8, 8, 4, 20, NONE), lackingSomebody()));
    }

    @Edge(promise = 33, says = "h is 17; h becomes 31 h and each of")
    static void theDigestOfANewObject(Check is) {
        is.due("digest()", new StickRelay().digest(), ofNew().longValue());
    }

    @Edge(promise = 33, says = "of RUNNERS runner() 0 to 3, takes(it, 1, 50)")
    static void theDigestOfOneAlone(Check is) {
        is.due("digest()", Relays.typed(Relays.RISING).digest(), mixed(joined(
            row(1, 6, 20, 8, 8, 8, 4, 20, NONE), row(10, 18, 5, 3, 660), lackingSomebody())).longValue());
    }

    @Edge(promise = 33, says = "of RUNNERS runner() 0 to 3, takes(it, 1, 50)")
    static void theDigestWithAFaultTellsOfNobody(Check is) {
        is.due("digest()", Relays.typed(Relays.times(4, Relays.RISING) + ";").digest(), mixed(joined(
            row(0, 28, 20, 8, 8, 8, 4, 20, 28), lackingSomebody())).longValue());
    }

    @Edge(promise = 33, says = "order(NONE, 0 to 7), order(1, 0), lot(7), races(7, 10, 5000) (as they are told)")
    static void theDigestOfFive(Check is) {
        StickRelay x = Relays.typed(Relays.times(5, Relays.RISING));
        is.due("digest()", x.digest(), mixed(joined(
            row(5, 34, 20, 8, 8, 8, 4, 20, NONE), times(5, 10, 18, 5, 3, 660),
            row(0, 1160, 107, 1100, 2260, 100, 2200, 3360, 100, 3300, 4460, 93),
            times(3, 7, 0, 16, 19, 19, 16), row(4460, 1, 1),
            row(4130, 0, 1, 2, 3, 19, 19, 19, 4130, 4465, 10))).longValue());
    }

    @Edge(promise = 33, says = "(of each thing all that is told of it, then of the next one)")
    static void theDigestWithAChangeOut(Check is) {
        StickRelay x = Relays.ofRising();
        x.mark(1, 20);
        is.due("digest()", x.digest(), mixed(joined(
            row(4, 27, 20, 8, 20, 8, 4, 20, NONE), times(4, 10, 18, 5, 3, 660),
            row(0, 1160, 107, 1100, 2260, NONE, 2080, 3240, NONE, 3180, 4340, 93),
            row(7, 0, 16, 19, 19, 16, NONE, 3, 1, 19, 19, 0, 7, 0, 16, 19, 19, 16), row(NONE, 1, 16),
            row(4130, 0, 1, 2, 3, 19, 19, 19, NONE, NONE, 0))).longValue());
    }

    /** By SEED 7 the SLIPS of ten races are 1, -2, -1, -1, 1, -1, 1, -1, -1, -1 times STEP together. */
    @Edge(promise = 33, says = "lot(7), races(7, 10, 5000) (as they are told)")
    static void theDigestWithTimesOfJust5000And5001(Check is) {
        StickRelay x = Relays.ofRising();
        Relays.marks(x, 0, 0, 0);
        x.set(5, 99);
        long[] allAhead = joined(
            row(4, 27, 20, 0, 0, 0, 4, 20, NONE), times(4, 10, 18, 5, 3, 660),
            row(0, 1160, 100, 1180, 2340, 100, 2360, 3520, 100, 3540, 4700, 100),
            times(3, 0, 2, 16, 19, 19, 0), row(4997, 1, 1), row(4130, 0, 1, 2, 3, 19, 19, 19, NONE));
        x.set(6, 3);
        is.due("digest() by STEP 3", x.digest(), mixed(joined(allAhead, row(5000, 10))).longValue());
        x.set(6, 4);
        is.due("digest() by STEP 4", x.digest(), mixed(joined(allAhead, row(5001, 7))).longValue());
    }

    @Edge(promise = 33, says = "as longs that wrap")
    static void longsThatWrap(Check is) {
        is.holds("it is far more than a long holds", ofNew().abs().bitLength() > 200);
        is.due("its lowest 64 bits", new StickRelay().digest(), ofNew().mod(BigInteger.ONE.shiftLeft(64)).longValue());
    }

    @Edge(promise = 33, says = "count() 0 to 7; fault();")
    static void theLatestFindingAndTheSheetsAreNotInIt(Check is) {
        StickRelay x = Relays.ofRising();
        long before = x.digest();
        x.sheet(0, 2, 60);
        x.lay(0, 2, 0, 5);
        x.lay(0, 2, 60, 5);
        is.due("count(8)", x.count(8), 2);
        is.due("digest()", x.digest(), before);
    }

    @Edge(promise = 33, says = "count() 0 to 7; fault();")
    static void theDigestChangesNothing(Check is) {
        StickRelay x = Relays.ofRising();
        long before = x.digest();
        is.due("digest() again", x.digest(), before);
        Whole.stays(is, "digest()", y -> y.digest());
    }
}
