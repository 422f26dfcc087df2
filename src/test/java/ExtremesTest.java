import java.lang.reflect.Method;
import java.util.ArrayList;
import java.util.List;

/** Every call with all of the numbers at and beyond each bound: nothing is thrown, and each is answered as the plain reading does. */
public final class ExtremesTest {
    private static final int LEAST = Integer.MIN_VALUE, MOST = Integer.MAX_VALUE;
    private static final int[] NUMBERS = {
        LEAST, LEAST + 1, -65536, -1002, -61, -60, -2, -1, 0, 1, 2, 3, 4, 5, 6, 7, 8, 9, 10, 16, 17, 20, 21, 30, 31, 40, 41, 59, 60, 61,
        99, 100, 101, 255, 256, 99999, 100000, MOST - 1, MOST,
    };
    // For calls with more than three arguments.
    private static final int[] FEWER_NUMBERS = {LEAST, -1, 0, 1, 2, 3, 4, 60, MOST};
    private static final String[] TEXTS = {"", "101853;111951;091852;102043;121653", "010103;019993;999991;999992"};

    public static void main(String[] args) throws Exception {
        Check check = new Check();
        for (Method method : StickRelay.class.getDeclaredMethods()) {
            if (!java.lang.reflect.Modifier.isPublic(method.getModifiers())) continue;
            for (String text : TEXTS) tryAll(check, method, text);
        }
        check.end();
    }

    private static void tryAll(Check check, Method method, String text) throws Exception {
        StickRelay relay = new StickRelay();
        PlainRelay plain = new PlainRelay();
        for (int i = 0; i < text.length(); i++) {
            relay.type(text.charAt(i));
            plain.type(text.charAt(i));
        }
        for (int s = 0; s < 3; s++) {
            relay.sheet(s, s, 3 - s);
            plain.sheet(s, s, 3 - s);
        }
        Method same = PlainRelay.class.getDeclaredMethod(method.getName(), method.getParameterTypes());
        for (Object[] numbers : choices(method.getParameterCount())) {
            long want = ((Number) same.invoke(plain, numbers)).longValue();
            String call = method.getName() + java.util.Arrays.toString(numbers) + " with " + text;
            try {
                check.due(call, ((Number) method.invoke(relay, numbers)).longValue(), want);
            } catch (java.lang.reflect.InvocationTargetException thrown) {
                check.holds(call + " throws nothing, but " + thrown.getCause(), false);
            }
            if (check.isFull()) return;
        }
        check.due("digest() behind " + method.getName() + " with " + text, relay.digest(), plain.digest());
        check.due("count(8) behind " + method.getName() + " with " + text, relay.count(8), plain.count(8));
    }

    private static List<Object[]> choices(int arguments) {
        int[] numbers = arguments > 3 ? FEWER_NUMBERS : NUMBERS;
        List<Object[]> chosen = new ArrayList<>();
        int many = 1;
        for (int i = 0; i < arguments; i++) many *= numbers.length;
        for (int code = 0; code < many; code++) {
            Object[] row = new Object[arguments];
            int rest = code;
            for (int i = 0; i < arguments; i++) {
                row[i] = numbers[rest % numbers.length];
                rest /= numbers.length;
            }
            chosen.add(row);
        }
        return chosen;
    }
}
