import java.util.ArrayList;
import java.util.List;
import java.util.function.Consumer;
import java.util.function.Supplier;

/** All that an object can be asked for, so that two objects can be told apart. */
final class Whole {
    private static final int SIZE = 5;

    private Whole() {
    }

    /** The latest FINDING is not in it; the object is left as it was, but for that. */
    static List<Long> of(StickRelay x) {
        List<Long> told = new ArrayList<>();
        for (int what = 0; what <= 7; what++) told.add((long) x.count(what));
        told.add((long) x.fault());
        for (int what = 0; what <= 6; what++) {
            int rule = x.set(what, 5);
            x.set(what, rule);
            told.add((long) rule);
        }
        for (int stretch = 0; stretch < 4; stretch++) {
            int runner = x.runs(stretch, 0);
            x.runs(stretch, runner);
            told.add((long) runner);
        }
        for (int change = 0; change < 3; change++) {
            int slip = x.slip(change, 0);
            x.slip(change, slip);
            told.add((long) slip);
        }
        told.add(x.digest());
        for (int s = 0; s < 4; s++) addSheet(told, x, s);
        return told;
    }

    private static void addSheet(List<Long> told, StickRelay x, int s) {
        for (int form = 0; form < 3; form++) {
            for (int i = 0; i <= 60; i++) {
                x.sheet(0, 0, -1);
                int item = x.get(s, form, i);
                told.add((long) x.count(8));
                if (x.count(8) != SIZE) break;
                told.add((long) item);
            }
        }
    }

    /** Five there are, nothing is as at first, SHEETS 0 to 2 have each FORM, 3 is LOST; the latest FINDING is 5. */
    static StickRelay rich() {
        StickRelay x = Relays.typed("101853;111951;091852;102043;121653");
        int[] rules = {19, 2, 33, 1, 3, 44, 7};
        for (int what = 0; what < rules.length; what++) x.set(what, rules[what]);
        Relays.marks(x, 5, 6, 7);
        for (int change = 0; change < 3; change++) x.slip(change, 4 - 5 * change);
        for (int stretch = 0; stretch < 4; stretch++) x.runs(stretch, 4 - stretch);
        int[] sizes = {3, 60, 0};
        for (int s = 0; s < 3; s++) {
            x.sheet(s, s, sizes[s]);
            for (int i = 0; i < sizes[s]; i++) x.lay(s, s, i, 11 * s - i);
        }
        x.sheet(3, 0, -1);
        return x;
    }

    /** What is refused changes nothing, but for count(8), which is as told afterwards. */
    static void stays(Check is, String call, Supplier<StickRelay> made, Consumer<StickRelay> refused, int finding) {
        StickRelay x = made.get();
        refused.accept(x);
        is.due(call + ", then count(8)", x.count(8), finding);
        is.holds(call + " changes nothing", of(x).equals(of(made.get())));
    }

    /** As stays, from rich() on, with a refusal that is no FINDING. */
    static void stays(Check is, String call, Consumer<StickRelay> refused) {
        stays(is, call, Whole::rich, refused, SIZE);
    }
}
