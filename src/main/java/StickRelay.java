import java.util.Arrays;

/** Four runners hand a stick on. What each call promises stands in ../shared/DOC.md. */
public final class StickRelay {
    public static final int NONE = -1, BAD = -2, NOT = -3, FULL = -4;

    private static final int LEAST_INT = -2147483648;
    private static final long LEAST_LONG = -9223372036854775808L;
    // Where any number may be the answer, a refusal stands so far below all of them.
    private static final int FAR_BELOW = -1000;

    private static final int RUNNERS = 5, STRETCHES = 4, CHANGES = 3, YARDS = 100, MOST_MARK = 40;
    // The places of the rules that set() tells.
    private static final int ZONE = 0, REACH = 1, LAG = 2, TIRE = 3, BEND = 4, BUMP = 5, STEP = 6;
    private static final int[] LEAST_RULES = {5, 0, 0, 0, 0, 0, 0};
    private static final int[] MOST_RULES = {30, 5, 99, 9, 9, 99, 30};

    private final Roster roster;
    private final Track track;
    private final Race race;
    private final Odds odds;
    private final Orders orders;
    private final Lots lots;
    private final Sheets sheets;

    public StickRelay() {
        roster = new Roster();
        track = new Track(roster);
        race = new Race(roster, track);
        odds = new Odds(track, race);
        orders = new Orders(roster, track);
        lots = new Lots();
        sheets = new Sheets();
    }

    // ---- runners, stretches, marks

    public int type(int b) {
        if (outside(b, 0, 255)) return BAD;
        return roster.append(b) ? roster.length : FULL;
    }

    public int wipe() {
        return roster.clear();
    }

    public int undo() {
        return roster.dropLast() ? roster.length : NOT;
    }

    public int fault() {
        return roster.fault;
    }

    public int runner(int runner, int what) {
        if (isNobody(runner) || outside(what, 0, 3)) return BAD;
        return roster.figure(runner, what);
    }

    public int runs(int stretch, int runner) {
        if (isNoStretch(stretch) || outside(runner, 0, RUNNERS - 1)) return BAD;
        return swap(race.runs, stretch, runner);
    }

    public int set(int what, int v) {
        if (outside(what, ZONE, STEP) || outside(v, LEAST_RULES[what], MOST_RULES[what])) return BAD;
        return track.setRule(what, v);
    }

    public int mark(int change, int v) {
        if (isNoChange(change) || isNoMark(v)) return BAD;
        return swap(race.marks, change, v);
    }

    public int slip(int change, int v) {
        if (isNoChange(change) || outside(v, -60, 60)) return FAR_BELOW + BAD;
        return swap(race.slips, change, v);
    }

    public int read(int s) {
        if (isNoSheet(s)) return BAD;
        if (sheets.isLost(s)) return sheets.found(Sheets.NULL);
        int most = Math.min(CHANGES, sheets.sizes[s]);
        for (int i = 0; i < most; i++) {
            int v = sheets.items[s][i];
            if (isNoMark(v)) return i;
            race.marks[i] = v;
        }
        return most;
    }

    // ---- the race

    public int takes(int runner, int stretch, int yards) {
        if (isNobody(runner) || isNoStretch(stretch) || outside(yards, 0, YARDS)) return BAD;
        return track.span(runner, stretch, yards);
    }

    public int when(int stretch, int what) {
        if (isNoStretch(stretch) || outside(what, 0, 1)) return BAD;
        if (race.lacksSomebody()) return NOT;
        int off = race.offAt(stretch);
        return what == 0 ? off : off + track.span(race.runs[stretch], stretch, YARDS);
    }

    public int meet(int change) {
        if (isNoChange(change)) return BAD;
        if (race.lacksSomebody()) return NOT;
        return race.meeting(change, race.slips[change]);
    }

    public int kind(int change) {
        if (isNoChange(change)) return BAD;
        if (race.lacksSomebody()) return NOT;
        return track.kindOf(race.meeting(change, race.slips[change]));
    }

    public int time() {
        return race.lacksSomebody() ? NOT : race.timeBy(race.slips);
    }

    public int carries(int stretch) {
        if (isNoStretch(stretch)) return BAD;
        return race.lacksSomebody() ? NOT : race.carried(stretch);
    }

    // ---- odds, marks, orders

    public int chance(int change) {
        if (isNoChange(change)) return BAD;
        return race.lacksSomebody() ? NOT : odds.sixteenths(change);
    }

    public long all(int what) {
        if (outside(what, 0, 1)) return LEAST_LONG - BAD;
        return race.lacksSomebody() ? LEAST_LONG - NOT : odds.fractionOfAll(what);
    }

    public int safe(int change, int k) {
        if (isNoChange(change) || outside(k, 0, 16)) return BAD;
        return race.lacksSomebody() ? NOT : odds.safest(change, k);
    }

    public int best(int change) {
        if (isNoChange(change)) return BAD;
        return race.lacksSomebody() ? NOT : race.bestMark(change);
    }

    public int order(int without, int what) {
        if (outside(without, NONE, RUNNERS - 1) || outside(what, 0, 7)) return BAD;
        orders.search(without);
        return orders.told[what];
    }

    // ---- blame, races

    public int blame(int change, int x) {
        if (isNoChange(change) || outside(x, 0, track.rules[ZONE])) return BAD;
        return race.lacksSomebody() ? NOT : odds.guilty(change, x);
    }

    public int lot(int seed) {
        if (race.lacksSomebody()) return NOT;
        lots.seed = seed;
        lots.drawSlips(track.rules[STEP]);
        return race.timeBy(lots.slips);
    }

    public int races(int seed, int n, int most) {
        if (outside(n, 0, 60) || outside(most, 0, 99999)) return BAD;
        if (race.lacksSomebody()) return NOT;
        lots.seed = seed;
        int good = 0;
        for (int i = 0; i < n; i++) {
            lots.drawSlips(track.rules[STEP]);
            int time = race.timeBy(lots.slips);
            if (time != NONE && time <= most) good++;
        }
        return good;
    }

    // ---- sheets

    public int sheet(int s, int form, int n) {
        if (isNoSheet(s) || isNoForm(form) || n > Sheets.MOST_ITEMS) return BAD;
        if (n < 0) return sheets.found(Sheets.SIZE);
        sheets.renew(s, form, n);
        return n;
    }

    public int lose(int s) {
        if (isNoSheet(s)) return BAD;
        if (sheets.isLost(s)) return sheets.found(Sheets.NULL);
        return swap(sheets.sizes, s, NONE);
    }

    public int lay(int s, int form, int i, int v) {
        if (isNoSheet(s) || isNoForm(form)) return BAD;
        int finding = sheets.check(s, form, i);
        if (finding != 0) return sheets.found(finding);
        sheets.put(s, i, v);
        return 1;
    }

    public int get(int s, int form, int i) {
        if (isNoSheet(s) || isNoForm(form)) return LEAST_INT;
        int finding = sheets.check(s, form, i);
        if (finding == 0) return sheets.items[s][i];
        sheets.found(finding);
        return LEAST_INT;
    }

    public int copy(int s, int i, int t, int j, int n) {
        if (isNoSheet(s) || isNoSheet(t)) return BAD;
        if (sheets.isLost(s) || sheets.isLost(t)) return sheets.found(Sheets.NULL);
        if (sheets.forms[s] != sheets.forms[t]) return sheets.found(Sheets.STORE);
        if (!sheets.holds(s, i, n) || !sheets.holds(t, j, n)) return sheets.found(Sheets.INDEX);
        System.arraycopy(sheets.items[s], i, sheets.items[t], j, n);
        return 1;
    }

    public int write(int s) {
        if (isNoSheet(s)) return BAD;
        if (sheets.isLost(s)) return sheets.found(Sheets.NULL);
        if (race.lacksSomebody()) return NOT;
        int most = Math.min(STRETCHES, sheets.sizes[s]);
        for (int stretch = 0; stretch < most; stretch++) sheets.put(s, stretch, race.carried(stretch));
        return most;
    }

    public int count(int what) {
        switch (what) {
            case 0: return roster.count;
            case 1: return roster.length;
            case 2: return track.rules[ZONE];
            case 3:
            case 4:
            case 5: return race.marks[what - 3];
            case 6: return race.unlikeOnes();
            case 7: return track.rules[LAG];
            case 8: return sheets.finding;
            default: return BAD;
        }
    }

    public long digest() {
        long h = 17;
        for (int what = 0; what <= 7; what++) h = 31 * h + count(what);
        h = 31 * h + fault();
        for (int runner = 0; runner < roster.count; runner++) {
            for (int what = 0; what <= 3; what++) h = 31 * h + runner(runner, what);
            h = 31 * h + takes(runner, 1, 50);
        }
        for (int stretch = 0; stretch < STRETCHES; stretch++) {
            h = 31 * h + when(stretch, 0);
            h = 31 * h + when(stretch, 1);
            h = 31 * h + carries(stretch);
        }
        for (int change = 0; change < CHANGES; change++) {
            h = 31 * h + meet(change);
            h = 31 * h + kind(change);
            h = 31 * h + chance(change);
            h = 31 * h + safe(change, 10);
            h = 31 * h + best(change);
            h = 31 * h + blame(change, 5);
        }
        h = 31 * h + time();
        h = 31 * h + all(0);
        h = 31 * h + all(1);
        // One search answers all eight questions, as order(NONE, 0 to 7) would.
        orders.search(NONE);
        for (int what = 0; what <= 7; what++) h = 31 * h + orders.told[what];
        orders.search(1);
        h = 31 * h + orders.told[0];
        h = 31 * h + lot(7);
        return 31 * h + races(7, 10, 5000);
    }

    // ---- what several calls share

    private static boolean outside(int v, int least, int most) {
        return v < least || v > most;
    }

    private boolean isNobody(int runner) {
        return outside(runner, 0, roster.count - 1);
    }

    private static boolean isNoStretch(int stretch) {
        return outside(stretch, 0, STRETCHES - 1);
    }

    private static boolean isNoChange(int change) {
        return outside(change, 0, CHANGES - 1);
    }

    private static boolean isNoMark(int v) {
        return outside(v, 0, MOST_MARK);
    }

    private static boolean isNoSheet(int s) {
        return outside(s, 0, Sheets.MOST - 1);
    }

    private static boolean isNoForm(int form) {
        return outside(form, Sheets.BYTES, Sheets.INTS);
    }

    private static int swap(int[] row, int i, int v) {
        int old = row[i];
        row[i] = v;
        return old;
    }

    /** The text of RUNNERS and what it tells of each. */
    private static final class Roster {
        static final int MOST_BYTES = 40;
        // Six figures and a ; behind them.
        static final int WIDTH = 7;
        static final int ZERO = 48, NINE = 57, SEMICOLON = 59;

        final int[] text = new int[MOST_BYTES];
        final int[] full = new int[RUNNERS];
        final int[] slow = new int[RUNNERS];
        final int[] rise = new int[RUNNERS];
        final int[] hands = new int[RUNNERS];
        int length = 0;
        int fault = NONE;
        int count = 0;

        boolean append(int b) {
            if (length >= MOST_BYTES) return false;
            text[length] = b;
            length++;
            scan();
            return true;
        }

        boolean dropLast() {
            if (length == 0) return false;
            length--;
            scan();
            return true;
        }

        int clear() {
            int old = length;
            length = 0;
            scan();
            return old;
        }

        int figure(int runner, int what) {
            switch (what) {
                case 0: return full[runner];
                case 1: return slow[runner];
                case 2: return rise[runner];
                default: return hands[runner];
            }
        }

        private void scan() {
            int place = 0;
            while (place < length && canGoOn(place)) place++;
            boolean ended = length == 0 || length % WIDTH == WIDTH - 1;
            fault = place == length && ended ? NONE : place;
            count = fault == NONE ? (length + 1) / WIDTH : 0;
            for (int runner = 0; runner < count; runner++) readFigures(runner);
        }

        /** Whether the byte at a place is well, all bytes before it being so. */
        private boolean canGoOn(int place) {
            if (place / WIDTH >= RUNNERS) return false;
            int b = text[place];
            int column = place % WIDTH;
            if (column == WIDTH - 1) return b == SEMICOLON;
            if (outside(b, ZERO, NINE)) return false;
            switch (column) {
                case 1: return twoFigures(place - 1) > 0;
                case 3: return twoFigures(place - 1) >= twoFigures(place - 3);
                case 5: return b > ZERO && b <= ZERO + 3;
                default: return true;
            }
        }

        private void readFigures(int runner) {
            int start = WIDTH * runner;
            full[runner] = twoFigures(start);
            slow[runner] = twoFigures(start + 2);
            rise[runner] = text[start + 4] - ZERO;
            hands[runner] = text[start + 5] - ZERO;
        }

        private int twoFigures(int place) {
            return 10 * (text[place] - ZERO) + text[place + 1] - ZERO;
        }
    }

    /** The rules, and how long anybody takes for yards and for handing on by them. */
    private static final class Track {
        final Roster roster;
        final int[] rules = {20, 1, 20, 0, 0, 30, 5};
        // What TIRE and BEND add to a yard of each STRETCH.
        final int[] extras = {0, 0, 0, 0};

        Track(Roster roster) {
            this.roster = roster;
        }

        int setRule(int what, int v) {
            int old = swap(rules, what, v);
            for (int stretch = 0; stretch < STRETCHES; stretch++) {
                extras[stretch] = rules[TIRE] + (stretch % 2 == 0 ? rules[BEND] : 0);
            }
            return old;
        }

        /** What a yard at full tilt takes. */
        int pace(int runner, int stretch) {
            return roster.full[runner] + extras[stretch];
        }

        int span(int runner, int stretch, int yards) {
            int slowYards = 4 * roster.rise[runner];
            if (slowYards > yards) slowYards = yards;
            return yards * extras[stretch] + slowYards * roster.slow[runner]
                + (yards - slowYards) * roster.full[runner];
        }

        /** How long it is from going off of who comes to going off of who goes. */
        int untilNext(int change, int comes, int mark, int slip) {
            return span(comes, change, YARDS - mark) + Math.max(0, rules[LAG] + slip);
        }

        /**
         * How much later who goes is x yards on than who comes is x less REACH yards on, were the MARK 0.
         * All yards at which a MARK can stand or hands can meet are run by who comes at full tilt,
         * so each yard of MARK takes just one pace away from this.
         */
        private int headroom(int change, int comes, int goes, int slip, int x) {
            int wait = Math.max(0, rules[LAG] + slip);
            return wait + span(goes, change + 1, x) - (x - rules[REACH]) * pace(comes, change);
        }

        int meeting(int change, int comes, int goes, int mark, int slip) {
            int needed = mark * pace(comes, change);
            for (int x = 0; x <= rules[ZONE]; x++) {
                if (headroom(change, comes, goes, slip, x) >= needed) return x;
            }
            return NONE;
        }

        /**
         * The greatest MARK by which they MEET; there is one, as by a MARK of 0 they do at x 0.
         * It is the BEST, too: a greater MARK makes the TIME less by a pace a yard, and who is
         * BUMPED by it is BUMPED by every lesser one.
         */
        int farthest(int change, int comes, int goes, int slip) {
            int pace = pace(comes, change);
            if (pace < 1) return NONE;
            int most = 0;
            for (int x = 0; x <= rules[ZONE]; x++) {
                most = Math.max(most, headroom(change, comes, goes, slip, x));
            }
            return Math.min(MOST_MARK, most / pace);
        }

        /** As untilNext, and what a BUMP loses; NONE if OUT. */
        int leg(int change, int comes, int goes, int mark, int slip) {
            int x = meeting(change, comes, goes, mark, slip);
            if (x == NONE) return NONE;
            return untilNext(change, comes, mark, slip) + (x == 0 ? rules[BUMP] : 0);
        }

        int kindOf(int meeting) {
            if (meeting == NONE) return 3;
            if (meeting == 0) return 2;
            return meeting >= rules[ZONE] - 2 ? 1 : 0;
        }
    }

    /** Who RUNS, with which MARKS and SLIPS. */
    private static final class Race {
        final Roster roster;
        final Track track;
        final int[] runs = {0, 1, 2, 3};
        final int[] marks = {8, 8, 8};
        final int[] slips = {0, 0, 0};

        Race(Roster roster, Track track) {
            this.roster = roster;
            this.track = track;
        }

        boolean lacksSomebody() {
            for (int runner : runs) {
                if (runner >= roster.count) return true;
            }
            return false;
        }

        int unlikeOnes() {
            int seen = 0;
            for (int runner : runs) seen |= 1 << runner;
            return Integer.bitCount(seen);
        }

        int offAt(int stretch) {
            int off = 0;
            for (int change = 0; change < stretch; change++) {
                off += track.untilNext(change, runs[change], marks[change], slips[change]);
            }
            return off;
        }

        int meeting(int change, int slip) {
            return track.meeting(change, runs[change], runs[change + 1], marks[change], slip);
        }

        int bestMark(int change) {
            return track.farthest(change, runs[change], runs[change + 1], slips[change]);
        }

        int timeBy(int[] slipsOfAll) {
            int time = 0;
            for (int change = 0; change < CHANGES; change++) {
                int leg = track.leg(change, runs[change], runs[change + 1], marks[change], slipsOfAll[change]);
                if (leg == NONE) return NONE;
                time += leg;
            }
            return time + track.span(runs[CHANGES], CHANGES, YARDS);
        }

        int carried(int stretch) {
            int from = stretch == 0 ? 0 : meeting(stretch - 1, slips[stretch - 1]);
            int to = stretch == CHANGES ? 0 : meeting(stretch, slips[stretch]);
            return from == NONE || to == NONE ? NONE : YARDS + to - from;
        }
    }

    /** What may come of the SLIPS that odds bring. */
    private static final class Odds {
        static final int SLIPS = 5, BELOW = 16;
        // 16 by 16 by 16 is 2 so many times.
        static final int HALVINGS = 12;
        static final int[] SHARES = {1, 4, 6, 4, 1};

        final Track track;
        final Race race;
        // The greatest MARK that is not OUT by each SLIP, of the CHANGE weighed last.
        final int[] farthest = new int[SLIPS];

        Odds(Track track, Race race) {
            this.track = track;
            this.race = race;
        }

        int sixteenths(int change) {
            weigh(change);
            return sharesAt(race.marks[change]);
        }

        int fractionOfAll(int what) {
            int above = 1;
            int below = 1;
            for (int change = 0; change < CHANGES; change++) {
                weigh(change);
                above *= sharesAt(race.marks[change]);
                below *= BELOW;
            }
            // What is below is a power of two, so that halving brings lowest terms (and 0 by 1).
            for (int i = 0; i < HALVINGS && above % 2 == 0; i++) {
                above /= 2;
                below /= 2;
            }
            return what == 0 ? above : below;
        }

        int safest(int change, int k) {
            weigh(change);
            for (int mark = MOST_MARK; mark >= 0; mark--) {
                if (sharesAt(mark) >= k) return mark;
            }
            return NONE;
        }

        int guilty(int change, int x) {
            int bits = 0;
            for (int i = 0; i < SLIPS; i++) {
                if (race.meeting(change, slipAt(i)) == x) bits |= 1 << i;
            }
            return bits;
        }

        private int slipAt(int i) {
            return (i - 2) * track.rules[STEP];
        }

        private void weigh(int change) {
            int comes = race.runs[change];
            int goes = race.runs[change + 1];
            for (int i = 0; i < SLIPS; i++) farthest[i] = track.farthest(change, comes, goes, slipAt(i));
        }

        /** In how many sixteenths it is not OUT by a MARK, the CHANGE having been weighed. */
        private int sharesAt(int mark) {
            int shares = 0;
            for (int i = 0; i < SLIPS; i++) {
                if (farthest[i] >= mark) shares += SHARES[i];
            }
            return shares;
        }
    }

    /** The best of all ways in which four unlike RUNNERS run. */
    private static final class Orders {
        static final int LEFT = 1, RIGHT = 2;

        final Roster roster;
        final Track track;
        // Of each CHANGE, by RUNNERS times who comes and who goes: the BEST MARK and the leg with it.
        final int[][] marks = new int[CHANGES][RUNNERS * RUNNERS];
        final int[][] legs = new int[CHANGES][RUNNERS * RUNNERS];
        // The TIME, who RUNS each STRETCH, the MARK of each CHANGE.
        final int[] told = new int[1 + STRETCHES + CHANGES];

        Orders(Roster roster, Track track) {
            this.roster = roster;
            this.track = track;
        }

        void search(int without) {
            Arrays.fill(told, NONE);
            for (int change = 0; change < CHANGES; change++) weighPairs(change);
            int n = roster.count;
            int barred = without == NONE ? 0 : 1 << without;
            // From the least row on, so that of like ones the first is kept.
            for (int a = 0; a < n; a++) {
                for (int b = 0; b < n; b++) {
                    for (int c = 0; c < n; c++) {
                        for (int d = 0; d < n; d++) {
                            if (areUnlike(a, b, c, d, barred) && canChangeHands(a, b, c, d)) consider(a, b, c, d);
                        }
                    }
                }
            }
        }

        private void weighPairs(int change) {
            for (int comes = 0; comes < roster.count; comes++) {
                for (int goes = 0; goes < roster.count; goes++) {
                    int mark = track.farthest(change, comes, goes, 0);
                    int pair = RUNNERS * comes + goes;
                    marks[change][pair] = mark;
                    legs[change][pair] = track.leg(change, comes, goes, mark, 0);
                }
            }
        }

        private static boolean areUnlike(int a, int b, int c, int d, int barred) {
            int all = 1 << a | 1 << b | 1 << c | 1 << d;
            return Integer.bitCount(all) == STRETCHES && (all & barred) == 0;
        }

        private boolean canChangeHands(int a, int b, int c, int d) {
            int first = roster.hands[a] & roster.hands[c];
            int second = roster.hands[b] & roster.hands[d];
            return (first & LEFT) != 0 && (second & RIGHT) != 0
                || (first & RIGHT) != 0 && (second & LEFT) != 0;
        }

        private void consider(int a, int b, int c, int d) {
            int first = RUNNERS * a + b;
            int second = RUNNERS * b + c;
            int third = RUNNERS * c + d;
            int time = legs[0][first] + legs[1][second] + legs[2][third] + track.span(d, CHANGES, YARDS);
            if (told[0] != NONE && told[0] <= time) return;
            told[0] = time;
            told[1] = a;
            told[2] = b;
            told[3] = c;
            told[4] = d;
            told[5] = marks[0][first];
            told[6] = marks[1][second];
            told[7] = marks[2][third];
        }
    }

    /** LOTS, and the SLIPS of a race by them. */
    private static final class Lots {
        // By lots of 16, how many STEPS a SLIP has.
        static final int[] STEPS = {-2, -1, -1, -1, -1, 0, 0, 0, 0, 0, 0, 1, 1, 1, 1, 2};

        final int[] slips = new int[CHANGES];
        int seed = 0;

        void drawSlips(int step) {
            for (int change = 0; change < CHANGES; change++) slips[change] = STEPS[lotOfSixteen()] * step;
        }

        private int lotOfSixteen() {
            seed = 1103515245 * seed + 12345;
            return (seed >>> 16) % 16;
        }
    }

    /** The SHEETS; a size of NONE tells that one is LOST. */
    private static final class Sheets {
        static final int MOST = 4, MOST_ITEMS = 60;
        static final int BYTES = 0, SHORTS = 1, INTS = 2;
        static final int NULL = 1, INDEX = 2, CAST = 3, STORE = 4, SIZE = 5;

        final int[][] items = new int[MOST][MOST_ITEMS];
        final int[] forms = {BYTES, BYTES, BYTES, BYTES};
        final int[] sizes = {NONE, NONE, NONE, NONE};
        int finding = 0;

        boolean isLost(int s) {
            return sizes[s] == NONE;
        }

        int found(int number) {
            finding = number;
            return -10 - number;
        }

        /** The row is used again, since what a run makes is to be small. */
        void renew(int s, int form, int n) {
            Arrays.fill(items[s], 0);
            forms[s] = form;
            sizes[s] = n;
        }

        /** The FINDING that keeps item i of a FORM from being used; 0: none does. */
        int check(int s, int form, int i) {
            if (isLost(s)) return NULL;
            if (forms[s] != form) return CAST;
            return outside(i, 0, sizes[s] - 1) ? INDEX : 0;
        }

        /** Whether there are n items from i on; asked so that no sum can wrap. */
        boolean holds(int s, int i, int n) {
            return i >= 0 && n >= 0 && i <= sizes[s] && n <= sizes[s] - i;
        }

        void put(int s, int i, int v) {
            switch (forms[s]) {
                case BYTES: items[s][i] = (byte) v; break;
                case SHORTS: items[s][i] = (short) v; break;
                default: items[s][i] = v; break;
            }
        }
    }
}
