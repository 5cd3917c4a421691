/** Objects in a state that a test starts from. */
public final class Given {
    private Given() {
    }

    public static void sayAll(TaughtTongues x, String text) {
        for (int i = 0; i < text.length(); i++) {
            x.say(text.charAt(i));
        }
    }

    public static TaughtTongues signs(String text) {
        TaughtTongues x = new TaughtTongues();
        sayAll(x, text);
        return x;
    }

    public static TaughtTongues with(int slip, int hears, int learner) {
        TaughtTongues x = new TaughtTongues();
        x.set(0, slip);
        x.set(1, hears);
        x.set(2, learner);
        return x;
    }

    public static TaughtTongues with(String text, int slip, int hears, int learner) {
        TaughtTongues x = with(slip, hears, learner);
        sayAll(x, text);
        if (x.before() < 1) {
            throw new IllegalArgumentException("not taken: " + text);
        }
        return x;
    }

    /** Sayings: a meaning and a form, one behind another. */
    public static void hearAll(TaughtTongues x, int... sayings) {
        for (int i = 0; i + 1 < sayings.length; i += 2) {
            x.hear(sayings[i], sayings[i + 1]);
        }
    }

    public static void weights(TaughtTongues x, int first, int second, int third) {
        x.weight(0, first);
        x.weight(1, second);
        x.weight(2, third);
    }
}
