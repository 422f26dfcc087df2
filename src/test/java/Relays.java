/** Objects that several tests begin with. */
final class Relays {
    /** 10 hundredths a yard from the first one on, with both hands. */
    static final String EVEN = "101003";
    /** 18 hundredths for each of the first 20 yards, then 10; with both hands: 1160 for 100 yards. */
    static final String RISING = "101853";

    private Relays() {
    }

    static StickRelay typed(String text) {
        StickRelay relay = new StickRelay();
        type(relay, text);
        return relay;
    }

    static void type(StickRelay relay, String text) {
        for (int i = 0; i < text.length(); i++) relay.type(text.charAt(i));
    }

    static String times(int n, String one) {
        return String.join(";", java.util.Collections.nCopies(n, one));
    }

    static StickRelay ofEven() {
        return typed(times(4, EVEN));
    }

    static StickRelay ofRising() {
        return typed(times(4, RISING));
    }

    static void marks(StickRelay relay, int first, int second, int third) {
        relay.mark(0, first);
        relay.mark(1, second);
        relay.mark(2, third);
    }

    /** Four are there; who RUNS one STRETCH is none of them: 0, 1, 2, 3 in turn. */
    static StickRelay[] lacking() {
        StickRelay[] all = new StickRelay[4];
        for (int stretch = 0; stretch < 4; stretch++) {
            all[stretch] = ofRising();
            all[stretch].runs(stretch, 4);
        }
        return all;
    }

    /** At each CHANGE who comes is no later than who goes at every yard of the ZONE. */
    static StickRelay meetingEverywhere() {
        StickRelay x = ofEven();
        marks(x, 3, 3, 3);
        return x;
    }
}
