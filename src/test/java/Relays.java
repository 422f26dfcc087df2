/** Objects that several tests begin with. */
final class Relays {
    /** 10 hundredths a yard from the first one on, with both hands. */
    static final String EVEN = "101003";
    /** 18 hundredths for each of the first 20 yards, then 10; with both hands: 1160 for 100 yards. */
    static final String RISING = "101853";

    private Relays() {
    }

    static StickRelay typed(String text) {
        StickRelay relay = new StickRelay();
        type(relay, text);
        return relay;
    }

    static void type(StickRelay relay, String text) {
        for (int i = 0; i < text.length(); i++) relay.type(text.charAt(i));
    }

    static String times(int n, String one) {
        return String.join(";", java.util.Collections.nCopies(n, one));
    }

    static StickRelay ofEven() {
        return typed(times(4, EVEN));
    }

    static StickRelay ofRising() {
        return typed(times(4, RISING));
    }

    static void marks(StickRelay relay, int first, int second, int third) {
        relay.mark(0, first);
        relay.mark(1, second);
        relay.mark(2, third);
    }
}
