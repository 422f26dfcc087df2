/** Promises 1 to 11: a new object, the text of RUNNERS, who RUNS, the rules, MARKS and SLIPS. */
public final class RunnersTest {
    private static final int BAD = StickRelay.BAD, NOT = StickRelay.NOT, FULL = StickRelay.FULL, NONE = StickRelay.NONE;
    private static final Check check = new Check();

    public static void main(String[] args) {
        newObject();
        type();
        wipe();
        undo();
        faultOfShortTexts();
        faultOfFigures();
        faultOfMany();
        runner();
        runs();
        set();
        mark();
        slip();
        read();
        readStops();
        check.end();
    }

    private static void newObject() {
        StickRelay x = new StickRelay();
        int[] counts = {0, 0, 20, 8, 8, 8, 4, 20, 0};
        for (int what = 0; what < counts.length; what++) check.due("1: count(" + what + ")", x.count(what), counts[what]);
        check.due("1: fault()", x.fault(), NONE);
        check.due("1: time()", x.time(), NOT);
        for (int s = 0; s < 4; s++) check.due("1: lose(" + s + ")", x.lose(s), -11);
        int[] rules = {20, 1, 20, 0, 0, 30, 5};
        for (int what = 0; what < rules.length; what++) check.due("1: set(" + what + ")", x.set(what, 5), rules[what]);
        for (int stretch = 0; stretch < 4; stretch++) check.due("1: runs(" + stretch + ")", x.runs(stretch, 4), stretch);
        for (int change = 0; change < 3; change++) {
            check.due("1: mark(" + change + ")", x.mark(change, 1), 8);
            check.due("1: slip(" + change + ")", x.slip(change, 1), 0);
        }
    }

    private static void type() {
        StickRelay x = new StickRelay();
        check.due("2: type(-1)", x.type(-1), BAD);
        check.due("2: type(256)", x.type(256), BAD);
        check.due("2: count(1)", x.count(1), 0);
        check.due("2: type(0)", x.type(0), 1);
        check.due("2: type(255)", x.type(255), 2);
        for (int n = 3; n <= 40; n++) check.due("2: type, " + n, x.type('1'), n);
        check.due("2: the 41st", x.type('1'), FULL);
        check.due("2: BAD goes ahead of FULL", x.type(256), BAD);
        check.due("2: count(1)", x.count(1), 40);
    }

    private static void wipe() {
        StickRelay x = new StickRelay();
        check.due("3: wipe() of none", x.wipe(), 0);
        Relays.type(x, "101853");
        check.due("3: wipe()", x.wipe(), 6);
        check.due("3: count(0)", x.count(0), 0);
        check.due("3: count(1)", x.count(1), 0);
        check.due("3: fault()", x.fault(), NONE);
        Relays.type(x, "x");
        check.due("3: wipe() of a faulty one", x.wipe(), 1);
        check.due("3: fault()", x.fault(), NONE);
    }

    private static void undo() {
        StickRelay x = new StickRelay();
        check.due("4: undo() of none", x.undo(), NOT);
        Relays.type(x, "101853;");
        check.due("4: count(0) behind a ;", x.count(0), 0);
        check.due("4: undo()", x.undo(), 6);
        check.due("4: count(0)", x.count(0), 1);
        for (int left = 5; left >= 0; left--) check.due("4: undo()", x.undo(), left);
        check.due("4: undo() of none", x.undo(), NOT);
    }

    private static void faults(String text, int fault, int runners) {
        StickRelay x = Relays.typed(text);
        check.due("5: fault() of " + text, x.fault(), fault);
        check.due("5: count(0) of " + text, x.count(0), runners);
    }

    private static void faultOfShortTexts() {
        faults("", NONE, 0);
        faults("1", 1, 0);
        faults("10185", 5, 0);
        faults("101853", NONE, 1);
        faults("101853;", 7, 0);
        faults("101853;1", 8, 0);
        faults("101853;101853", NONE, 2);
        faults("1018531", 6, 0);
        faults(";", 0, 0);
        faults("101853;;", 7, 0);
        faults("10185;", 5, 0);
    }

    private static void faultOfFigures() {
        faults("00", 1, 0);
        faults("009900", 1, 0);
        faults("010101", NONE, 1);
        faults("999991", NONE, 1);
        faults("0", 1, 0);
        faults("200", 3, 0);
        faults("2019", 3, 0);
        faults("202003", NONE, 1);
        faults("101850", 5, 0);
        faults("101851", NONE, 1);
        faults("101854", 5, 0);
        faults("101803", NONE, 1);
        faults("101893", NONE, 1);
        for (int place = 0; place < 6; place++) {
            char[] low = "101853".toCharArray();
            low[place] = '/';
            faults(new String(low), place, 0);
            low[place] = ':';
            faults(new String(low), place, 0);
        }
        faults("101853;00", 8, 0);
        faults("101853;2019", 10, 0);
        faults("101853:101853", 6, 0);
    }

    private static void faultOfMany() {
        faults(Relays.times(5, "101853"), NONE, 5);
        faults(Relays.times(5, "101853") + ";", 35, 0);
        faults(Relays.times(5, "101853") + ";1", 35, 0);
        faults(Relays.times(5, "101853") + ";x", 35, 0);
        faults(Relays.times(5, "101853") + "1", 34, 0);
        faults(Relays.times(5, "101853") + ";10185", 35, 0);
    }

    private static void runner() {
        StickRelay x = Relays.typed("071291;101853");
        int[] due = {7, 12, 9, 1, 10, 18, 5, 3};
        for (int i = 0; i < due.length; i++) check.due("6: runner(" + i / 4 + ", " + i % 4 + ")", x.runner(i / 4, i % 4), due[i]);
        check.due("6: runner(2, 0)", x.runner(2, 0), BAD);
        check.due("6: runner(-1, 0)", x.runner(-1, 0), BAD);
        check.due("6: runner(0, 4)", x.runner(0, 4), BAD);
        check.due("6: runner(0, -1)", x.runner(0, -1), BAD);
        x.type(';');
        check.due("6: runner(0, 0) with a FAULT", x.runner(0, 0), BAD);
    }

    private static void runs() {
        StickRelay x = new StickRelay();
        check.due("7: runs(0, 4)", x.runs(0, 4), 0);
        check.due("7: runs(0, 0)", x.runs(0, 0), 4);
        check.due("7: runs(3, 0)", x.runs(3, 0), 3);
        check.due("7: count(6)", x.count(6), 3);
        check.due("7: runs(4, 0)", x.runs(4, 0), BAD);
        check.due("7: runs(-1, 0)", x.runs(-1, 0), BAD);
        check.due("7: runs(0, 5)", x.runs(0, 5), BAD);
        check.due("7: runs(0, -1)", x.runs(0, -1), BAD);
        check.due("7: runs(3, 1)", x.runs(3, 1), 0);
    }

    private static void set() {
        int[] least = {5, 0, 0, 0, 0, 0, 0};
        int[] most = {30, 5, 99, 9, 9, 99, 30};
        StickRelay x = new StickRelay();
        for (int what = 0; what < 7; what++) {
            x.set(what, least[what]);
            check.due("8: set(" + what + ", most)", x.set(what, most[what]), least[what]);
            check.due("8: set(" + what + ", below)", x.set(what, least[what] - 1), BAD);
            check.due("8: set(" + what + ", above)", x.set(what, most[what] + 1), BAD);
            check.due("8: set(" + what + ", least)", x.set(what, least[what]), most[what]);
        }
        check.due("8: set(7, 5)", x.set(7, 5), BAD);
        check.due("8: set(-1, 5)", x.set(-1, 5), BAD);
        x.set(0, 13);
        x.set(2, 14);
        check.due("8: count(2)", x.count(2), 13);
        check.due("8: count(7)", x.count(7), 14);
    }

    private static void mark() {
        StickRelay x = new StickRelay();
        for (int change = 0; change < 3; change++) {
            check.due("9: mark(" + change + ", 40)", x.mark(change, 40), 8);
            check.due("9: mark(" + change + ", 41)", x.mark(change, 41), BAD);
            check.due("9: mark(" + change + ", -1)", x.mark(change, -1), BAD);
            check.due("9: mark(" + change + ", 0)", x.mark(change, 0), 40);
            check.due("9: count()", x.count(3 + change), 0);
        }
        check.due("9: mark(3, 0)", x.mark(3, 0), BAD);
        check.due("9: mark(-1, 0)", x.mark(-1, 0), BAD);
    }

    private static void slip() {
        StickRelay x = new StickRelay();
        for (int change = 0; change < 3; change++) {
            check.due("10: slip(" + change + ", 60)", x.slip(change, 60), 0);
            check.due("10: slip(" + change + ", 61)", x.slip(change, 61), -1002);
            check.due("10: slip(" + change + ", -61)", x.slip(change, -61), -1002);
            check.due("10: slip(" + change + ", -60)", x.slip(change, -60), 60);
            check.due("10: slip(" + change + ", -2)", x.slip(change, -2), -60);
            check.due("10: slip(" + change + ", 0)", x.slip(change, 0), -2);
        }
        check.due("10: slip(3, 0)", x.slip(3, 0), -1002);
        check.due("10: slip(-1, 0)", x.slip(-1, 0), -1002);
    }

    private static void read() {
        StickRelay x = new StickRelay();
        check.due("11: read(-1)", x.read(-1), BAD);
        check.due("11: read(4)", x.read(4), BAD);
        check.due("11: count(8)", x.count(8), 0);
        check.due("11: read(0) of a LOST one", x.read(0), -11);
        check.due("11: count(8)", x.count(8), 1);
        x.sheet(0, 0, 0);
        check.due("11: read(0) of an empty one", x.read(0), 0);
        x.sheet(3, 2, 5);
        int[] items = {40, 0, 7, 9, 11};
        for (int i = 0; i < items.length; i++) x.lay(3, 2, i, items[i]);
        check.due("11: read(3)", x.read(3), 3);
        for (int change = 0; change < 3; change++) check.due("11: count()", x.count(3 + change), items[change]);
        x.sheet(1, 1, 2);
        check.due("11: read(1) of two", x.read(1), 2);
        check.due("11: the third MARK", x.count(5), 7);
    }

    private static void readStops() {
        int[] wrong = {41, -1, 300};
        for (int v : wrong) {
            StickRelay x = new StickRelay();
            x.sheet(0, 1, 3);
            x.lay(0, 1, 0, 12);
            x.lay(0, 1, 1, v);
            x.lay(0, 1, 2, 13);
            check.due("11: read(0) with " + v, x.read(0), 1);
            check.due("11: count(3)", x.count(3), 12);
            check.due("11: count(4)", x.count(4), 8);
            check.due("11: count(5)", x.count(5), 8);
            x.lay(0, 1, 0, v);
            check.due("11: read(0) with " + v + " first", x.read(0), 0);
            check.due("11: count(3)", x.count(3), 12);
        }
    }
}
