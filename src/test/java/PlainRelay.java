/**
 * The document said over again for tests, in the slowest and plainest way: yard by yard, every MARK
 * and every order tried. It shares no code and no shortcut with StickRelay.
 */
final class PlainRelay {
    private static final int NONE = -1, BAD = -2, NOT = -3, FULL = -4;
    private static final int NULL = 1, INDEX = 2, CAST = 3, STORE = 4, SIZE = 5;
    private static final int NEVER = Integer.MAX_VALUE;
    private static final int[] ODDS = {1, 4, 6, 4, 1};

    private String text = "";
    private final int[] runs = {0, 1, 2, 3};
    private final int[] marks = {8, 8, 8};
    private final int[] slips = {0, 0, 0};
    private int zone = 20, reach = 1, lag = 20, tire = 0, bend = 0, bump = 30, step = 5;
    private final Object[] sheets = new Object[4];
    private int finding = 0;
    private int seedNow = 0;
    // When a runner is so many yards on in a stretch; made anew when something may have changed.
    private int[][][] yards = null;

    // ---- runners, stretches, marks

    int type(int b) {
        if (b < 0 || b > 255) return BAD;
        if (text.length() == 40) return FULL;
        text += (char) b;
        yards = null;
        return text.length();
    }

    int wipe() {
        int had = text.length();
        text = "";
        yards = null;
        return had;
    }

    int undo() {
        if (text.isEmpty()) return NOT;
        text = text.substring(0, text.length() - 1);
        yards = null;
        return text.length();
    }

    int fault() {
        if (text.isEmpty()) return NONE;
        String[] parts = text.split(";", -1);
        int place = 0;
        for (int p = 0; p < parts.length; p++) {
            if (p == 5) return place;
            int at = partFault(parts[p]);
            boolean isLast = p == parts.length - 1;
            if (at < 0 && !isLast && parts[p].length() < 6) at = parts[p].length();
            if (at < 0 && isLast && parts[p].length() < 6) return text.length();
            if (at >= 0) return place + at;
            place += parts[p].length() + 1;
        }
        return NONE;
    }

    private static int partFault(String part) {
        for (int i = 0; i < part.length(); i++) {
            if (i >= 6) return i;
            char c = part.charAt(i);
            if (c < '0' || c > '9') return i;
            if (i == 1 && part.startsWith("00")) return i;
            if (i == 3 && part.substring(2, 4).compareTo(part.substring(0, 2)) < 0) return i;
            if (i == 5 && "123".indexOf(c) < 0) return i;
        }
        return -1;
    }

    private int runners() {
        return fault() != NONE || text.isEmpty() ? 0 : text.split(";").length;
    }

    private int figure(int runner, int what) {
        String part = text.split(";")[runner];
        if (what == 0) return Integer.parseInt(part.substring(0, 2));
        if (what == 1) return Integer.parseInt(part.substring(2, 4));
        return part.charAt(what + 2) - '0';
    }

    int runner(int runner, int what) {
        if (runner < 0 || runner >= runners() || what < 0 || what > 3) return BAD;
        return figure(runner, what);
    }

    int runs(int stretch, int runner) {
        if (stretch < 0 || stretch > 3 || runner < 0 || runner > 4) return BAD;
        int old = runs[stretch];
        runs[stretch] = runner;
        return old;
    }

    int set(int what, int v) {
        int old;
        if (what == 0 && v >= 5 && v <= 30) { old = zone; zone = v; }
        else if (what == 1 && v >= 0 && v <= 5) { old = reach; reach = v; }
        else if (what == 2 && v >= 0 && v <= 99) { old = lag; lag = v; }
        else if (what == 3 && v >= 0 && v <= 9) { old = tire; tire = v; }
        else if (what == 4 && v >= 0 && v <= 9) { old = bend; bend = v; }
        else if (what == 5 && v >= 0 && v <= 99) { old = bump; bump = v; }
        else if (what == 6 && v >= 0 && v <= 30) { old = step; step = v; }
        else return BAD;
        yards = null;
        return old;
    }

    int mark(int change, int v) {
        if (change < 0 || change > 2 || v < 0 || v > 40) return BAD;
        int old = marks[change];
        marks[change] = v;
        return old;
    }

    int slip(int change, int v) {
        if (change < 0 || change > 2 || v < -60 || v > 60) return -1002;
        int old = slips[change];
        slips[change] = v;
        return old;
    }

    int read(int s) {
        if (s < 0 || s > 3) return BAD;
        if (sheets[s] == null) return found(NULL);
        int read = 0;
        while (read < 3 && read < size(s) && item(s, read) >= 0 && item(s, read) <= 40) {
            marks[read] = item(s, read);
            read++;
        }
        return read;
    }

    // ---- the race

    private int yard(int runner, int stretch, int nth) {
        int takes = nth <= 4 * figure(runner, 2) ? figure(runner, 1) : figure(runner, 0);
        takes += tire;
        if (stretch == 0 || stretch == 2) takes += bend;
        return takes;
    }

    private int after(int runner, int stretch, int n) {
        if (yards == null) {
            yards = new int[runners()][4][131];
            for (int r = 0; r < yards.length; r++) {
                for (int s = 0; s < 4; s++) {
                    for (int y = 1; y <= 130; y++) yards[r][s][y] = yards[r][s][y - 1] + yard(r, s, y);
                }
            }
        }
        return yards[runner][stretch][n];
    }

    private boolean isShort() {
        for (int runner : runs) if (runner >= runners()) return true;
        return false;
    }

    private int goesOff(int[] who, int[] marked, int[] slipped, int stretch) {
        int off = 0;
        for (int i = 0; i < stretch; i++) {
            off += after(who[i], i, 100 - marked[i]);
            off += lag + slipped[i] < 0 ? 0 : lag + slipped[i];
        }
        return off;
    }

    private int meets(int[] who, int[] marked, int[] slipped, int change) {
        int comesOff = goesOff(who, marked, slipped, change);
        int goesOff = goesOff(who, marked, slipped, change + 1);
        for (int x = 0; x <= zone; x++) {
            int comesAt = comesOff + after(who[change], change, 100 + x - reach);
            int goesAt = goesOff + after(who[change + 1], change + 1, x);
            if (comesAt <= goesAt) return x;
        }
        return NONE;
    }

    /** The TIME, as though no CHANGE were OUT of which isAsked does not tell. */
    private int timeOf(int[] who, int[] marked, int[] slipped, boolean[] isAsked) {
        int lost = 0;
        for (int i = 0; i < 3; i++) {
            int x = meets(who, marked, slipped, i);
            if (x == NONE && isAsked[i]) return NEVER;
            if (x == 0) lost += bump;
        }
        return goesOff(who, marked, slipped, 3) + after(who[3], 3, 100) + lost;
    }

    private int told(int time) {
        return time == NEVER ? NONE : time;
    }

    int takes(int runner, int stretch, int n) {
        if (runner < 0 || runner >= runners() || stretch < 0 || stretch > 3 || n < 0 || n > 100) return BAD;
        return after(runner, stretch, n);
    }

    int when(int stretch, int what) {
        if (stretch < 0 || stretch > 3 || what < 0 || what > 1) return BAD;
        if (isShort()) return NOT;
        int off = goesOff(runs, marks, slips, stretch);
        return what == 0 ? off : off + after(runs[stretch], stretch, 100);
    }

    int meet(int change) {
        if (change < 0 || change > 2) return BAD;
        return isShort() ? NOT : meets(runs, marks, slips, change);
    }

    int kind(int change) {
        int x = meet(change);
        if (x < NONE) return x;
        return x == NONE ? 3 : x == 0 ? 2 : x == zone || x == zone - 1 || x == zone - 2 ? 1 : 0;
    }

    int time() {
        return isShort() ? NOT : told(timeOf(runs, marks, slips, new boolean[] {true, true, true}));
    }

    int carries(int stretch) {
        if (stretch < 0 || stretch > 3) return BAD;
        if (isShort()) return NOT;
        int from = 0;
        int to = 400;
        if (stretch > 0) {
            int x = meet(stretch - 1);
            if (x == NONE) return NONE;
            from = 100 * stretch + x;
        }
        if (stretch < 3) {
            int x = meet(stretch);
            if (x == NONE) return NONE;
            to = 100 * (stretch + 1) + x;
        }
        return to - from;
    }

    // ---- odds, marks, orders

    private int chanceAt(int change, int mark) {
        int sum = 0;
        int[] marked = marks.clone();
        marked[change] = mark;
        for (int i = 0; i < 5; i++) {
            int[] slipped = slips.clone();
            slipped[change] = step * (i - 2);
            if (meets(runs, marked, slipped, change) != NONE) sum += ODDS[i];
        }
        return sum;
    }

    int chance(int change) {
        if (change < 0 || change > 2) return BAD;
        return isShort() ? NOT : chanceAt(change, marks[change]);
    }

    long all(int what) {
        if (what < 0 || what > 1) return Long.MIN_VALUE + 2;
        if (isShort()) return Long.MIN_VALUE + 3;
        int above = chance(0) * chance(1) * chance(2);
        int common = 4096;
        while (above % common != 0 || 4096 % common != 0) common--;
        return what == 0 ? above / common : 4096 / common;
    }

    int safe(int change, int k) {
        if (change < 0 || change > 2 || k < 0 || k > 16) return BAD;
        if (isShort()) return NOT;
        int greatest = NONE;
        for (int mark = 0; mark <= 40; mark++) if (chanceAt(change, mark) >= k) greatest = mark;
        return greatest;
    }

    private int bestOf(int[] who, int[] slipped, int[] others, int change) {
        boolean[] isAsked = new boolean[3];
        isAsked[change] = true;
        int best = NONE;
        int least = NEVER;
        int[] marked = others.clone();
        for (int mark = 0; mark <= 40; mark++) {
            marked[change] = mark;
            int time = timeOf(who, marked, slipped, isAsked);
            if (time < least) {
                least = time;
                best = mark;
            }
        }
        return best;
    }

    int best(int change) {
        if (change < 0 || change > 2) return BAD;
        return isShort() ? NOT : bestOf(runs, slips, marks, change);
    }

    private boolean handsChange(int[] who) {
        for (int first = 1; first <= 2; first++) {
            boolean isWell = true;
            for (int s = 0; s < 4; s++) {
                int hand = s % 2 == 0 ? first : 3 - first;
                int hands = figure(who[s], 3);
                if (hands != 3 && hands != hand) isWell = false;
            }
            if (isWell) return true;
        }
        return false;
    }

    /** The TIME, who RUNS each STRETCH, the MARKS; all of them NONE where there is no way. */
    private int[] bestOrder(int without) {
        int[] answer = {NONE, NONE, NONE, NONE, NONE, NONE, NONE, NONE};
        int least = NEVER;
        int[] none = {0, 0, 0};
        for (int code = 0; code < 625; code++) {
            int[] who = {code / 125, code / 25 % 5, code / 5 % 5, code % 5};
            if (!isAllowed(who, without) || !handsChange(who)) continue;
            int[] marked = new int[3];
            boolean isOut = false;
            for (int i = 0; i < 3; i++) {
                int best = bestOf(who, none, none, i);
                if (best == NONE) isOut = true;
                else marked[i] = best;
            }
            if (isOut) continue;
            int time = timeOf(who, marked, none, new boolean[] {true, true, true});
            if (time >= least) continue;
            least = time;
            answer = new int[] {time, who[0], who[1], who[2], who[3], marked[0], marked[1], marked[2]};
        }
        return answer;
    }

    private boolean isAllowed(int[] who, int without) {
        for (int i = 0; i < 4; i++) {
            if (who[i] >= runners() || who[i] == without) return false;
            for (int j = 0; j < i; j++) if (who[i] == who[j]) return false;
        }
        return true;
    }

    int order(int without, int what) {
        if (without < -1 || without > 4 || what < 0 || what > 7) return BAD;
        return bestOrder(without)[what];
    }

    // ---- blame, races

    int blame(int change, int x) {
        if (change < 0 || change > 2 || x < 0 || x > zone) return BAD;
        if (isShort()) return NOT;
        int bits = 0;
        for (int i = 0; i < 5; i++) {
            int[] slipped = slips.clone();
            slipped[change] = step * (i - 2);
            if (meets(runs, marks, slipped, change) == x) bits += 1 << i;
        }
        return bits;
    }

    private int drawnSlip() {
        seedNow = (int) (1103515245L * seedNow + 12345L);
        long upper = (seedNow & 0xFFFFFFFFL) / 65536;
        int lot = (int) (upper % 16);
        if (lot == 0) return -2 * step;
        if (lot <= 4) return -step;
        if (lot <= 10) return 0;
        return lot <= 14 ? step : 2 * step;
    }

    private int drawnTime() {
        int[] drawn = new int[3];
        for (int i = 0; i < 3; i++) drawn[i] = drawnSlip();
        return timeOf(runs, marks, drawn, new boolean[] {true, true, true});
    }

    int lot(int seed) {
        if (isShort()) return NOT;
        seedNow = seed;
        return told(drawnTime());
    }

    int races(int seed, int n, int most) {
        if (n < 0 || n > 60 || most < 0 || most > 99999) return BAD;
        if (isShort()) return NOT;
        seedNow = seed;
        int good = 0;
        for (int i = 0; i < n; i++) if (drawnTime() <= most) good++;
        return good;
    }

    // ---- sheets

    private int found(int number) {
        finding = number;
        return -10 - number;
    }

    private int form(int s) {
        return sheets[s] instanceof byte[] ? 0 : sheets[s] instanceof short[] ? 1 : 2;
    }

    private int size(int s) {
        return java.lang.reflect.Array.getLength(sheets[s]);
    }

    private int item(int s, int i) {
        return java.lang.reflect.Array.getInt(sheets[s], i);
    }

    private void put(int s, int i, int v) {
        if (sheets[s] instanceof byte[] row) row[i] = (byte) v;
        else if (sheets[s] instanceof short[] row) row[i] = (short) v;
        else if (sheets[s] instanceof int[] row) row[i] = v;
    }

    int sheet(int s, int form, int n) {
        if (s < 0 || s > 3 || form < 0 || form > 2 || n > 60) return BAD;
        if (n < 0) return found(SIZE);
        sheets[s] = form == 0 ? new byte[n] : form == 1 ? new short[n] : new int[n];
        return n;
    }

    int lose(int s) {
        if (s < 0 || s > 3) return BAD;
        if (sheets[s] == null) return found(NULL);
        int had = size(s);
        sheets[s] = null;
        return had;
    }

    private int used(int s, int form, int i) {
        if (s < 0 || s > 3 || form < 0 || form > 2) return BAD;
        if (sheets[s] == null) return found(NULL);
        if (form(s) != form) return found(CAST);
        if (i < 0 || i >= size(s)) return found(INDEX);
        return 1;
    }

    int lay(int s, int form, int i, int v) {
        int answer = used(s, form, i);
        if (answer == 1) put(s, i, v);
        return answer;
    }

    int get(int s, int form, int i) {
        return used(s, form, i) == 1 ? item(s, i) : Integer.MIN_VALUE;
    }

    int copy(int s, int i, int t, int j, int n) {
        if (s < 0 || s > 3 || t < 0 || t > 3) return BAD;
        if (sheets[s] == null || sheets[t] == null) return found(NULL);
        if (form(s) != form(t)) return found(STORE);
        if (i < 0 || j < 0 || n < 0 || (long) i + n > size(s) || (long) j + n > size(t)) return found(INDEX);
        int[] kept = new int[n];
        for (int k = 0; k < n; k++) kept[k] = item(s, i + k);
        for (int k = 0; k < n; k++) put(t, j + k, kept[k]);
        return 1;
    }

    int write(int s) {
        if (s < 0 || s > 3) return BAD;
        if (sheets[s] == null) return found(NULL);
        if (isShort()) return NOT;
        int written = 0;
        while (written < 4 && written < size(s)) {
            put(s, written, carries(written));
            written++;
        }
        return written;
    }

    int count(int what) {
        int unlike = 0;
        for (int r = 0; r < 5; r++) if (runs[0] == r || runs[1] == r || runs[2] == r || runs[3] == r) unlike++;
        int[] counts = {runners(), text.length(), zone, marks[0], marks[1], marks[2], unlike, lag, finding};
        return what < 0 || what > 8 ? BAD : counts[what];
    }

    long digest() {
        long h = 17;
        for (int what = 0; what <= 7; what++) h = 31 * h + count(what);
        h = 31 * h + fault();
        for (int r = 0; r < runners(); r++) {
            for (int what = 0; what < 4; what++) h = 31 * h + runner(r, what);
            h = 31 * h + takes(r, 1, 50);
        }
        for (int s = 0; s < 4; s++) {
            for (int answer : new int[] {when(s, 0), when(s, 1), carries(s)}) h = 31 * h + answer;
        }
        for (int i = 0; i < 3; i++) {
            for (int answer : new int[] {meet(i), kind(i), chance(i), safe(i, 10), best(i), blame(i, 5)}) h = 31 * h + answer;
        }
        h = 31 * (31 * (31 * h + time()) + all(0)) + all(1);
        for (int answer : bestOrder(NONE)) h = 31 * h + answer;
        h = 31 * h + order(1, 0);
        h = 31 * h + lot(7);
        return 31 * h + races(7, 10, 5000);
    }
}
