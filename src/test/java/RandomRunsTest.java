import java.util.Random;

/** Long runs of calls by fixed seeds: StickRelay answers as the plain reading of the document does. */
public final class RandomRunsTest {
    private static final int RUNS = 150, CALLS = 512;
    // Numbers that are told wrongly, at the ends and far beyond.
    private static final int[] ODD_ONES = {
        -1, -2, 1 << 31, (1 << 31) - 1, -61, 61, 5, 4, 3, 41, 40, 256, 100, 101, 60, 99999, 100000, 17, 31, 30,
    };

    private final Check check = new Check();
    private final Random random;
    private final int run;
    private StickRelay relay = new StickRelay();
    private PlainRelay plain = new PlainRelay();

    private RandomRunsTest(int run) {
        this.run = run;
        random = new Random(20_000L + run);
    }

    public static void main(String[] args) {
        Check all = new Check();
        for (int run = 0; run < RUNS && !all.isFull(); run++) {
            RandomRunsTest test = new RandomRunsTest(run);
            all.holds("run " + run + " answers as the plain reading does", test.isWell());
        }
        all.end();
    }

    private boolean isWell() {
        int calls = 0;
        while (calls < CALLS) {
            calls += random.nextInt(12) == 0 ? retype(CALLS - calls) : oneCall();
            if (check.isFull()) return false;
        }
        return check.isAllWell();
    }

    private int below(int n) {
        return random.nextInt(n);
    }

    /** A number from 0 to most, now and then another one. */
    private int upTo(int most) {
        return below(16) == 0 ? ODD_ONES[below(ODD_ONES.length)] : below(most + 1);
    }

    private int retype(int mostCalls) {
        StringBuilder text = new StringBuilder();
        int runners = below(8) == 0 ? below(6) : 4 + below(2);
        int slowest = below(4) == 0 ? 99 : 6 + below(20);
        for (int i = 0; i < runners; i++) {
            int full = 1 + below(slowest);
            int slow = full + below(Math.min(below(4) == 0 ? 99 : 12, 100 - full));
            if (i > 0) text.append(';');
            text.append(full / 10).append(full % 10).append(slow / 10).append(slow % 10);
            text.append(below(10)).append(below(3) == 0 ? 1 + below(2) : 3);
        }
        if (below(6) == 0 && text.length() > 0) text.setCharAt(below(text.length()), "0;1:/9x3".charAt(below(8)));
        if (below(9) == 0) text.append(";101x");
        if (text.length() + 2 > mostCalls) return oneCall();
        check.due(run + ": wipe()", relay.wipe(), plain.wipe());
        for (int i = 0; i < text.length(); i++) typed(text.charAt(i));
        check.due(run + ": fault() of " + text, relay.fault(), plain.fault());
        return text.length() + 2;
    }

    private void typed(int b) {
        check.due(run + ": type(" + b + ")", relay.type(b), plain.type(b));
    }

    private int oneCall() {
        int call = below(36);
        if (call < 14) change(call);
        else if (call < 24) askRace(call);
        else if (call < 32) useSheets(call);
        else askAll(call);
        return 1;
    }

    private void change(int call) {
        int a;
        int b;
        switch (call) {
            case 0: a = below(3) == 0 ? upTo(255) : ';'; typed(a); break;
            case 1: check.due(run + ": undo()", relay.undo(), plain.undo()); break;
            case 2: case 3: case 4: case 5:
                a = upTo(6);
                b = upTo(new int[] {30, 5, 99, 9, 9, 99, 30}[Math.floorMod(a, 7)]);
                check.due(run + ": set(" + a + ", " + b + ")", relay.set(a, b), plain.set(a, b));
                break;
            case 6: case 7: case 8: case 9:
                a = upTo(2);
                b = below(2) == 0 ? upTo(40) : upTo(12);
                check.due(run + ": mark(" + a + ", " + b + ")", relay.mark(a, b), plain.mark(a, b));
                break;
            case 10: case 11:
                a = upTo(2);
                b = below(2) == 0 ? upTo(120) - 60 : upTo(10) - 5;
                check.due(run + ": slip(" + a + ", " + b + ")", relay.slip(a, b), plain.slip(a, b));
                break;
            default:
                a = upTo(3);
                b = below(6) == 0 ? upTo(4) : upTo(3);
                check.due(run + ": runs(" + a + ", " + b + ")", relay.runs(a, b), plain.runs(a, b));
                break;
        }
    }

    private void askRace(int call) {
        int a = upTo(3);
        int b;
        int c;
        switch (call) {
            case 14:
                b = upTo(3);
                check.due(run + ": runner(" + a + ", " + b + ")", relay.runner(a, b), plain.runner(a, b));
                break;
            case 15:
                b = upTo(3);
                c = upTo(100);
                check.due(run + ": takes(" + a + ", " + b + ", " + c + ")", relay.takes(a, b, c), plain.takes(a, b, c));
                break;
            case 16:
                b = upTo(1);
                check.due(run + ": when(" + a + ", " + b + ")", relay.when(a, b), plain.when(a, b));
                break;
            case 17: check.due(run + ": meet(" + a + ")", relay.meet(a), plain.meet(a)); break;
            case 18: check.due(run + ": kind(" + a + ")", relay.kind(a), plain.kind(a)); break;
            case 19: check.due(run + ": time()", relay.time(), plain.time()); break;
            case 20: check.due(run + ": carries(" + a + ")", relay.carries(a), plain.carries(a)); break;
            case 21: check.due(run + ": chance(" + a + ")", relay.chance(a), plain.chance(a)); break;
            case 22: check.due(run + ": all(" + a + ")", relay.all(a), plain.all(a)); break;
            default: check.due(run + ": best(" + a + ")", relay.best(a), plain.best(a)); break;
        }
    }

    private void useSheets(int call) {
        int s = upTo(3);
        int form = below(3) == 0 ? upTo(2) : s % 3;
        int i = below(2) == 0 ? upTo(4) : upTo(60);
        String told = s + ", " + form + ", " + i;
        switch (call) {
            case 24: check.due(run + ": sheet(" + told + ")", relay.sheet(s, form, i), plain.sheet(s, form, i)); break;
            case 25:
                if (below(3) == 0) check.due(run + ": lose(" + s + ")", relay.lose(s), plain.lose(s));
                break;
            case 26: case 27:
                int v = below(4) == 0 ? random.nextInt() : upTo(42);
                check.due(run + ": lay(" + told + ", " + v + ")", relay.lay(s, form, i, v), plain.lay(s, form, i, v));
                break;
            case 28:
                int t = below(2) == 0 ? s : upTo(3);
                int j = upTo(6);
                int n = upTo(6);
                check.due(run + ": copy(" + s + ", " + i + ", " + t + ", " + j + ", " + n + ")",
                    relay.copy(s, i, t, j, n), plain.copy(s, i, t, j, n));
                sameItems();
                break;
            case 29: check.due(run + ": write(" + s + ")", relay.write(s), plain.write(s)); sameItems(); break;
            case 30: check.due(run + ": read(" + s + ")", relay.read(s), plain.read(s)); break;
            default: check.due(run + ": get(" + told + ")", relay.get(s, form, i), plain.get(s, form, i)); break;
        }
    }

    private void sameItems() {
        for (int s = 0; s < 4; s++) {
            for (int form = 0; form < 3; form++) {
                for (int i = 0; i < 8; i++) {
                    check.due(run + ": get(" + s + ", " + form + ", " + i + ")", relay.get(s, form, i), plain.get(s, form, i));
                }
            }
        }
    }

    private void askAll(int call) {
        int a = upTo(2);
        int b = upTo(16);
        switch (call) {
            case 32: check.due(run + ": safe(" + a + ", " + b + ")", relay.safe(a, b), plain.safe(a, b)); break;
            case 33: check.due(run + ": blame(" + a + ", " + b + ")", relay.blame(a, b), plain.blame(a, b)); break;
            case 34:
                int seed = random.nextInt();
                int n = upTo(60);
                int most = below(2) == 0 ? upTo(99999) : upTo(9000);
                check.due(run + ": lot(" + seed + ")", relay.lot(seed), plain.lot(seed));
                check.due(run + ": races(" + seed + ", " + n + ", " + most + ")",
                    relay.races(seed, n, most), plain.races(seed, n, most));
                break;
            default:
                a = upTo(5) - 1;
                b = upTo(7);
                check.due(run + ": order(" + a + ", " + b + ")", relay.order(a, b), plain.order(a, b));
                for (int what = -1; what <= 9; what++) {
                    check.due(run + ": count(" + what + ")", relay.count(what), plain.count(what));
                }
                check.due(run + ": digest()", relay.digest(), plain.digest());
                break;
        }
    }
}
