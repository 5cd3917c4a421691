import java.lang.reflect.InvocationTargetException;
import java.lang.reflect.Method;
import java.util.Arrays;
import java.util.Random;

/** Many runs of calls (the same ones each time), beside the plain form of the document. */
public final class PlainTest {
    private static final int RUNS = 300;
    private static final int CALLS = 80;
    private static final Due DUE = new Due();
    private static final Random RANDOM = new Random(20261116);

    /** A call, how often it is drawn, and for each argument its least and greatest value. */
    private static final Object[][] CALLS_DRAWN = {
        {"weight", 5, 0, 2, 1, 4}, {"set", 4, 0, 0, 0, 5}, {"set", 3, 1, 1, 1, 4}, {"set", 3, 2, 2, 0, 2},
        {"say", 4, 33, 126}, {"wipe", 1}, {"fault", 3}, {"before", 3}, {"number", 4, 0, 7},
        {"hear", 9, 0, 2, 0, 1}, {"forget", 1}, {"likeness", 4, 0, 7}, {"thinks", 4, 0, 7, 0, 1}, {"takes", 5},
        {"step", 6, 0, 7, 0, 7, 0, 1}, {"book", 6, 0, 7, 0, 4, 0, 7, 0, 7, 0, 1},
        {"after", 5, 0, 7, 1, 4, 0, 7, 0, 1}, {"leads", 4, 0, 7}, {"lasts", 5, 0, 2},
        {"lives", 5, 0, 7, 0, 2, 0, 1, 1, 4, 0, 1}, {"often", 5, 0, 7, 0, 2, 0, 12}, {"chosen", 8, 0, 7, -1, 3},
        {"back", 5, 0, 7, 1, 4, 0, 7, 0, 1}, {"guess", 5, 0, 7, 1, 4, 0, 1}, {"told", 2, 0, 4}, {"told", 1, 10, 12},
    };

    public static void main(String[] args) throws Exception {
        for (int run = 0; run < RUNS && !DUE.hasMany(); run++) {
            TaughtTongues x = new TaughtTongues();
            PlainTongues plain = new PlainTongues();
            for (int i = 0; i < CALLS && !DUE.hasMany(); i++) {
                if (RANDOM.nextInt(15) == 0) {
                    sayText(run, x, plain);
                } else {
                    callBoth(run, x, plain, draw());
                }
            }
        }
        everyFraction();
        DUE.end();
    }

    private static void sayText(int run, TaughtTongues x, PlainTongues plain) {
        int lines = 1 + RANDOM.nextInt(6);
        for (int place = 0; place < 6 * lines - 1; place++) {
            String signs = new String[] {"01*", "01*", "01*", ":", "123456789", ";"}[place % 6];
            int sign = RANDOM.nextInt(150) == 0 ? 33 + RANDOM.nextInt(94) : signs.charAt(RANDOM.nextInt(signs.length()));
            DUE.is(run + " say(" + sign + ")", plain.say(sign), x.say(sign));
            if (RANDOM.nextInt(8) == 0) {
                DUE.is(run + " fault()", plain.fault(), x.fault());
            }
        }
        DUE.is(run + " before()", plain.before(), x.before());
        if (RANDOM.nextInt(2) == 0) {
            DUE.is(run + " wipe()", plain.wipe(), x.wipe());
        }
    }

    private static Object[] draw() {
        int all = 0;
        for (Object[] call : CALLS_DRAWN) {
            all += (Integer) call[1];
        }
        int at = RANDOM.nextInt(all);
        for (Object[] call : CALLS_DRAWN) {
            at -= (Integer) call[1];
            if (at < 0) {
                return call;
            }
        }
        throw new IllegalStateException("one is drawn");
    }

    private static int drawArgument(int least, int most) {
        if (RANDOM.nextInt(25) != 0) {
            return least + RANDOM.nextInt(most - least + 1);
        }
        int[] wrong = {least - 1, most + 1, Integer.MIN_VALUE, Integer.MAX_VALUE, -2, 8};
        return wrong[RANDOM.nextInt(wrong.length)];
    }

    private static void callBoth(int run, TaughtTongues x, PlainTongues plain, Object[] call) throws Exception {
        int count = (call.length - 2) / 2;
        Object[] arguments = new Object[count];
        Class<?>[] types = new Class<?>[count];
        for (int i = 0; i < count; i++) {
            arguments[i] = drawArgument((Integer) call[2 + 2 * i], (Integer) call[3 + 2 * i]);
            types[i] = int.class;
        }
        String name = (String) call[0];
        String told = "run " + run + " " + name + Arrays.toString(arguments);
        Method own = TaughtTongues.class.getMethod(name, types);
        Method other = PlainTongues.class.getMethod(name, types);
        try {
            DUE.is(told, ((Number) other.invoke(plain, arguments)).longValue(), ((Number) own.invoke(x, arguments)).longValue());
        } catch (InvocationTargetException thrown) {
            DUE.holds(told + " throws " + thrown.getCause(), false);
        }
    }

    /** The greatest wholes that there are, where odds come nearest to the end of a long. */
    private static void everyFraction() {
        for (int hears = 1; hears <= 4; hears++) {
            TaughtTongues x = new TaughtTongues();
            PlainTongues plain = new PlainTongues();
            for (int meaning = 0; meaning < 3; meaning++) {
                DUE.is("weight", plain.weight(meaning, 4), x.weight(meaning, 4));
            }
            DUE.is("set", plain.set(1, hears), x.set(1, hears));
            DUE.is("set", plain.set(0, 5), x.set(0, 5));
            for (int i = 0; i < 8 * 8 * 4; i++) {
                int k = i / 64 + 1;
                for (int part = 0; part < 2; part++) {
                    DUE.is("after", plain.after(i % 8, k, i / 8 % 8, part), x.after(i % 8, k, i / 8 % 8, part));
                    DUE.is("back", plain.back(i % 8, k, i / 8 % 8, part), x.back(i % 8, k, i / 8 % 8, part));
                }
            }
        }
    }
}
