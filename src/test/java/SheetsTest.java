/** Promises 26 to 33: SHEETS, FINDINGS, counts and the digest. */
public final class SheetsTest {
    private static final int BAD = StickRelay.BAD, NOT = StickRelay.NOT, NONE = StickRelay.NONE;
    private static final int LEAST = Integer.MIN_VALUE;
    private static final Check check = new Check();

    public static void main(String[] args) {
        sheet();
        lose();
        lay();
        layRefuses();
        get();
        copy();
        copyOverlaps();
        copyRefuses();
        write();
        writeRefuses();
        count();
        digestIsAllThatIsTold();
        digestAtItsTime();
        digestChangesNothing();
        check.end();
    }

    private static void sheet() {
        StickRelay x = new StickRelay();
        for (int s = 0; s < 4; s++) {
            check.due("26: sheet(" + s + ", 0, 0)", x.sheet(s, 0, 0), 0);
            check.due("26: sheet(" + s + ", 2, 60)", x.sheet(s, 2, 60), 60);
            for (int i = 0; i < 60; i++) check.due("26: a new item", x.get(s, 2, i), 0);
            check.due("26: item 60", x.get(s, 2, 60), LEAST);
        }
        x.lay(1, 2, 59, 7);
        check.due("26: sheet(1, 1, 60)", x.sheet(1, 1, 60), 60);
        check.due("26: items are new", x.get(1, 1, 59), 0);
        int[][] bad = {{4, 0, 1}, {-1, 0, 1}, {0, 3, 1}, {0, -1, 1}, {0, 0, 61}, {4, 0, -1}, {0, 3, -1}};
        StickRelay y = new StickRelay();
        for (int[] row : bad) check.due("26: sheet, BAD", y.sheet(row[0], row[1], row[2]), BAD);
        check.due("26: count(8)", y.count(8), 0);
        check.due("26: SIZE", x.sheet(1, 0, -1), -15);
        check.due("26: SIZE", x.sheet(1, 0, LEAST), -15);
        check.due("26: count(8)", x.count(8), 5);
        check.due("26: nothing else changed", x.lose(1), 60);
    }

    private static void lose() {
        StickRelay x = new StickRelay();
        check.due("27: lose(4)", x.lose(4), BAD);
        check.due("27: lose(-1)", x.lose(-1), BAD);
        check.due("27: count(8)", x.count(8), 0);
        check.due("27: lose(2)", x.lose(2), -11);
        check.due("27: count(8)", x.count(8), 1);
        x.sheet(2, 1, 9);
        check.due("27: lose(2)", x.lose(2), 9);
        check.due("27: lose(2)", x.lose(2), -11);
        x.sheet(2, 1, 0);
        check.due("27: lose(2) of an empty one", x.lose(2), 0);
    }

    private static void lay() {
        int[][] due = {
            {0, 127, 127}, {0, 128, -128}, {0, 200, -56}, {0, 256, 0}, {0, -129, 127}, {0, LEAST, 0},
            {1, 32767, 32767}, {1, 32768, -32768}, {1, 40000, -25536}, {1, -32769, 32767}, {1, 65536, 0},
            {2, LEAST, LEAST}, {2, Integer.MAX_VALUE, Integer.MAX_VALUE}, {2, -1, -1},
        };
        StickRelay x = new StickRelay();
        for (int form = 0; form < 3; form++) x.sheet(form, form, 2);
        for (int[] row : due) {
            check.due("28: lay", x.lay(row[0], row[0], 1, row[1]), 1);
            check.due("28: item by " + row[1] + " of form " + row[0], x.get(row[0], row[0], 1), row[2]);
            check.due("28: the other item", x.get(row[0], row[0], 0), 0);
        }
    }

    private static void layRefuses() {
        StickRelay x = new StickRelay();
        x.sheet(1, 1, 3);
        int[][] bad = {{4, 1, 0}, {-1, 1, 0}, {1, 3, 0}, {1, -1, 0}, {0, 3, 0}};
        for (int[] row : bad) check.due("28: lay, BAD", x.lay(row[0], row[1], row[2], 5), BAD);
        check.due("28: count(8)", x.count(8), 0);
        check.due("28: NULL", x.lay(0, 1, 99, 5), -11);
        check.due("28: count(8)", x.count(8), 1);
        check.due("28: CAST", x.lay(1, 2, 99, 5), -13);
        check.due("28: count(8)", x.count(8), 3);
        check.due("28: INDEX", x.lay(1, 1, 3, 5), -12);
        check.due("28: INDEX", x.lay(1, 1, -1, 5), -12);
        check.due("28: count(8)", x.count(8), 2);
        for (int i = 0; i < 3; i++) check.due("28: nothing changed", x.get(1, 1, i), 0);
    }

    private static void get() {
        StickRelay x = new StickRelay();
        x.sheet(1, 1, 3);
        x.lay(1, 1, 2, -9);
        check.due("29: get(1, 1, 2)", x.get(1, 1, 2), -9);
        int[][] bad = {{4, 1, 0}, {-1, 1, 0}, {1, 3, 0}, {1, -1, 0}, {0, 3, 0}};
        for (int[] row : bad) check.due("29: get, BAD", x.get(row[0], row[1], row[2]), LEAST);
        check.due("29: count(8) behind BAD", x.count(8), 0);
        int[][] found = {{0, 1, 99, 1}, {1, 2, 99, 3}, {1, 0, 0, 3}, {1, 1, 3, 2}, {1, 1, -1, 2}, {3, 0, 0, 1}};
        for (int[] row : found) {
            check.due("29: get, a FINDING", x.get(row[0], row[1], row[2]), LEAST);
            check.due("29: count(8)", x.count(8), row[3]);
        }
    }

    private static StickRelay withRows(int form, int firstSize, int secondSize) {
        StickRelay x = new StickRelay();
        x.sheet(0, form, firstSize);
        x.sheet(1, form, secondSize);
        for (int i = 0; i < firstSize; i++) x.lay(0, form, i, i + 1);
        return x;
    }

    private static void rowIs(StickRelay x, int s, int form, int... due) {
        for (int i = 0; i < due.length; i++) check.due("30: item " + i + " of " + s, x.get(s, form, i), due[i]);
    }

    private static void copy() {
        for (int form = 0; form < 3; form++) {
            StickRelay x = withRows(form, 5, 4);
            check.due("30: copy(0, 1, 1, 0, 4)", x.copy(0, 1, 1, 0, 4), 1);
            rowIs(x, 1, form, 2, 3, 4, 5);
            check.due("30: copy(0, 0, 1, 3, 1)", x.copy(0, 0, 1, 3, 1), 1);
            rowIs(x, 1, form, 2, 3, 4, 1);
            check.due("30: copy of none", x.copy(0, 5, 1, 4, 0), 1);
            rowIs(x, 1, form, 2, 3, 4, 1);
            rowIs(x, 0, form, 1, 2, 3, 4, 5);
        }
    }

    private static void copyOverlaps() {
        StickRelay x = withRows(0, 5, 0);
        check.due("30: copy(0, 0, 0, 1, 4)", x.copy(0, 0, 0, 1, 4), 1);
        rowIs(x, 0, 0, 1, 1, 2, 3, 4);
        x = withRows(2, 5, 0);
        check.due("30: copy(0, 1, 0, 0, 4)", x.copy(0, 1, 0, 0, 4), 1);
        rowIs(x, 0, 2, 2, 3, 4, 5, 5);
    }

    private static void copyRefuses() {
        StickRelay x = withRows(0, 5, 4);
        x.sheet(2, 1, 5);
        check.due("30: copy, BAD s", x.copy(4, 0, 3, 0, 1), BAD);
        check.due("30: copy, BAD t", x.copy(3, 0, -1, 0, 1), BAD);
        check.due("30: count(8)", x.count(8), 0);
        check.due("30: copy, NULL s", x.copy(3, 0, 0, 0, 1), -11);
        check.due("30: copy, NULL t", x.copy(0, 9, 3, 0, 1), -11);
        check.due("30: count(8)", x.count(8), 1);
        check.due("30: copy, STORE", x.copy(0, 9, 2, 0, 1), -14);
        check.due("30: count(8)", x.count(8), 4);
        int most = Integer.MAX_VALUE;
        int[][] beyond = {
            {-1, 0, 1}, {0, -1, 1}, {0, 0, -1}, {0, 0, 5}, {1, 0, 5}, {5, 0, 1}, {0, 4, 1}, {0, 1, 4},
            {6, 0, 0}, {0, 5, 0}, {1, 0, most}, {most, 0, 1}, {0, most, 1}, {LEAST, 0, 0}, {0, 0, LEAST}, {most, most, most},
        };
        for (int[] row : beyond) {
            x.lay(0, 0, 0, 1);
            x.copy(0, 0, 3, 0, 0);
            check.due("30: copy, INDEX", x.copy(0, row[0], 1, row[1], row[2]), -12);
            check.due("30: count(8)", x.count(8), 2);
        }
        rowIs(x, 1, 0, 0, 0, 0, 0);
    }

    private static void write() {
        StickRelay x = Relays.ofRising();
        Relays.marks(x, 8, 4, 19);
        int[] due = {107, 95, 118, 80, 0, 0};
        for (int size = 0; size <= 6; size++) {
            x.sheet(size % 4, size % 3, size);
            check.due("31: write of " + size, x.write(size % 4), Math.min(size, 4));
            for (int i = 0; i < size; i++) check.due("31: item " + i, x.get(size % 4, size % 3, i), due[i]);
        }
        x.mark(0, 20);
        x.sheet(0, 0, 4);
        check.due("31: write with one OUT", x.write(0), 4);
        rowIs(x, 0, 0, NONE, NONE, 118, 80);
        StickRelay far = Relays.typed(Relays.times(4, "101893"));
        far.set(0, 30);
        far.mark(0, 27);
        far.sheet(0, 0, 1);
        far.sheet(1, 1, 1);
        check.due("31: carries(0)", far.carries(0), 130);
        check.due("31: write(0)", far.write(0), 1);
        check.due("31: write(1)", far.write(1), 1);
        check.due("31: 130 as a byte", far.get(0, 0, 0), -126);
        check.due("31: 130 as a short", far.get(1, 1, 0), 130);
    }

    private static void writeRefuses() {
        StickRelay x = new StickRelay();
        check.due("31: write(4)", x.write(4), BAD);
        check.due("31: write(-1)", x.write(-1), BAD);
        check.due("31: count(8)", x.count(8), 0);
        check.due("31: NULL goes ahead of NOT", x.write(0), -11);
        check.due("31: count(8)", x.count(8), 1);
        x.sheet(0, 2, 4);
        x.lay(0, 2, 0, 77);
        check.due("31: NOT", x.write(0), NOT);
        check.due("31: NOT of an empty one", x.sheet(1, 2, 0) + x.write(1), NOT);
        check.due("31: nothing changed", x.get(0, 2, 0), 77);
    }

    private static void count() {
        StickRelay x = Relays.typed("101853;101853");
        x.set(0, 11);
        x.set(2, 12);
        Relays.marks(x, 13, 14, 15);
        x.runs(0, 3);
        x.copy(0, 0, 0, 0, 0);
        int[] due = {2, 13, 11, 13, 14, 15, 3, 12, 1};
        for (int what = 0; what < due.length; what++) check.due("32: count(" + what + ")", x.count(what), due[what]);
        check.due("32: count(9)", x.count(9), BAD);
        check.due("32: count(-1)", x.count(-1), BAD);
        x.type(';');
        check.due("32: count(0) with a FAULT", x.count(0), 0);
        check.due("32: count(1) with a FAULT", x.count(1), 14);
        for (int s = 0; s < 4; s++) x.runs(s, 4);
        check.due("32: count(6)", x.count(6), 1);
        x.get(9, 0, 0);
        check.due("32: BAD is no FINDING", x.count(8), 1);
    }

    private static long h;

    private static void mix(long... answers) {
        for (long answer : answers) h = 31 * h + answer;
    }

    private static long digestOf(StickRelay x) {
        h = 17;
        for (int what = 0; what <= 7; what++) mix(x.count(what));
        mix(x.fault());
        for (int r = 0; r < x.count(0); r++) mix(x.runner(r, 0), x.runner(r, 1), x.runner(r, 2), x.runner(r, 3), x.takes(r, 1, 50));
        for (int s = 0; s < 4; s++) mix(x.when(s, 0), x.when(s, 1), x.carries(s));
        for (int i = 0; i < 3; i++) mix(x.meet(i), x.kind(i), x.chance(i), x.safe(i, 10), x.best(i), x.blame(i, 5));
        mix(x.time(), x.all(0), x.all(1));
        for (int what = 0; what <= 7; what++) mix(x.order(-1, what));
        mix(x.order(1, 0), x.lot(7), x.races(7, 10, 5000));
        return h;
    }

    private static void digestIsAllThatIsTold() {
        String[] texts = {
            "", "1", "101853", Relays.times(4, "101853"), Relays.times(5, "101003"),
            "101853;111953;091853;102043;121653", "101851;111952;091853;102041;121652", Relays.times(5, "101853") + ";",
        };
        for (String text : texts) {
            StickRelay x = Relays.typed(text);
            check.due("33: digest() of " + text, x.digest(), digestOf(x));
            Relays.marks(x, 19, 2, 20);
            x.set(6, 9);
            x.runs(0, 4);
            check.due("33: digest() of " + text, x.digest(), digestOf(x));
        }
    }

    /** All TIMES by STEP 0 are 5000, then 5001: the told one of the races in it. */
    private static void digestAtItsTime() {
        int[][] rows = {{5, 5, 5000, 10}, {9, 6, 5001, 0}};
        for (int[] row : rows) {
            StickRelay x = Relays.ofRising();
            x.set(3, 1);
            x.set(5, 0);
            x.set(6, 0);
            x.set(2, row[0]);
            Relays.marks(x, row[1], 0, 0);
            check.due("33: time()", x.time(), row[2]);
            check.due("33: races(7, 10, 5000)", x.races(7, 10, 5000), row[3]);
            check.due("33: digest() by " + row[2], x.digest(), digestOf(x));
        }
    }

    private static void digestChangesNothing() {
        StickRelay x = Relays.ofRising();
        x.lose(0);
        long first = x.digest();
        check.due("33: digest() again", x.digest(), first);
        check.due("33: count(8)", x.count(8), 1);
        x.sheet(0, 0, 3);
        check.due("33: SHEETS are not in it", x.digest(), first);
        x.slip(2, 1);
        check.holds("33: a SLIP is in it", x.digest() != first);
    }
}
