import java.util.ArrayList;
import java.util.Arrays;
import java.util.List;

/**
 * "Calls that are refused answer, the first of these that fits .. They change nothing": every call with
 * every mix of values at the bounds, in states that are new, changed, full and ready for a text.
 */
public final class RefusalTest {
    private static final Due DUE = new Due();
    private static final int MIN = Integer.MIN_VALUE;
    private static final int MAX = Integer.MAX_VALUE;
    private static final int FINE = 0, UNKNOWN = -1, OUTSIDE = -2, STATE = -3, FULL = -4, NO = -5;
    private static final long LOST = -1000000000000000000L;
    /** An object is used for 512 calls: those that make its state and those that look at it take part of them. */
    private static final int CALLS = 300;

    /** What an argument is: its bounds, and what is answered beyond them. */
    private enum Kind {
        TONGUE(UNKNOWN, 0, 7), MEANING(UNKNOWN, 0, 2), FORM(OUTSIDE, 0, 1), PART(OUTSIDE, 0, 1), WEIGHT(OUTSIDE, 1, 4),
        LIVES(OUTSIDE, 1, 4), OF_BOOK(OUTSIDE, 0, 4), TWELFTHS(OUTSIDE, 0, 12), SIGN(OUTSIDE, 33, 126), PLACE(FINE, -1, 4),
        WHAT_LASTS(OUTSIDE, 0, 2), WHAT_GUESS(OUTSIDE, 0, 1), WHICH_SLIP(FINE, 0, 0), WHICH_HEARS(FINE, 1, 1),
        WHICH_LEARNER(FINE, 2, 2), NO_WHICH(OUTSIDE, 0, 2), SLIP(OUTSIDE, 0, 5), HEARS(OUTSIDE, 1, 4), LEARNER(OUTSIDE, 0, 2),
        WHAT_FIRST(OUTSIDE, 0, 4), WHAT_WEIGHT(OUTSIDE, 10, 12), ANY(FINE, 0, 3);

        private final int refusal;
        private final int least;
        private final int most;

        Kind(int refusal, int least, int most) {
            this.refusal = refusal;
            this.least = least;
            this.most = most;
        }

        /** The last values inside and the first outside, and the far ones; lives also such as wrap around by HEARS. */
        int[] tried() {
            switch (this) {
                case WHICH_SLIP: case WHICH_HEARS: case WHICH_LEARNER:
                    return new int[] {least};
                case NO_WHICH:
                    return new int[] {MIN, -1, 3, MAX};
                case LIVES:
                    return new int[] {MIN, -1, 0, 1, 2, 3, 4, 5, 1 << 29, 1 << 30, (1 << 30) + 1, MAX};
                case OF_BOOK:
                    return new int[] {MIN, -1, 0, 1, 2, 3, 4, 5, MAX};
                default:
                    return new int[] {MIN, least - 1, least, most, most + 1, MAX};
            }
        }
    }

    private static final class Call {
        private final String name;
        private final boolean isFraction;
        private final boolean changes;
        private final Kind[] kinds;

        Call(String name, boolean isFraction, boolean changes, Kind... kinds) {
            this.name = name;
            this.isFraction = isFraction;
            this.changes = changes;
            this.kinds = kinds;
        }

        long answer(Object x, Object[] arguments) throws Exception {
            return RefusalTest.answer(x, name, arguments);
        }
    }

    private static final Call[] ALL_CALLS = {
        new Call("weight", false, true, Kind.MEANING, Kind.WEIGHT),
        new Call("set", false, true, Kind.WHICH_SLIP, Kind.SLIP),
        new Call("set", false, true, Kind.WHICH_HEARS, Kind.HEARS),
        new Call("set", false, true, Kind.WHICH_LEARNER, Kind.LEARNER),
        new Call("set", false, true, Kind.NO_WHICH, Kind.ANY),
        new Call("say", false, true, Kind.SIGN),
        new Call("before", false, true),
        new Call("number", false, false, Kind.TONGUE),
        new Call("hear", false, true, Kind.MEANING, Kind.FORM),
        new Call("likeness", false, false, Kind.TONGUE),
        new Call("thinks", true, false, Kind.TONGUE, Kind.PART),
        new Call("step", true, false, Kind.TONGUE, Kind.TONGUE, Kind.PART),
        new Call("book", true, false, Kind.TONGUE, Kind.OF_BOOK, Kind.TONGUE, Kind.TONGUE, Kind.PART),
        new Call("after", true, false, Kind.TONGUE, Kind.LIVES, Kind.TONGUE, Kind.PART),
        new Call("leads", false, false, Kind.TONGUE),
        new Call("lasts", false, false, Kind.WHAT_LASTS),
        new Call("lives", true, false, Kind.TONGUE, Kind.MEANING, Kind.FORM, Kind.LIVES, Kind.PART),
        new Call("often", false, false, Kind.TONGUE, Kind.MEANING, Kind.TWELFTHS),
        new Call("chosen", false, false, Kind.TONGUE, Kind.PLACE),
        new Call("back", true, false, Kind.TONGUE, Kind.LIVES, Kind.TONGUE, Kind.PART),
        new Call("guess", false, false, Kind.TONGUE, Kind.LIVES, Kind.WHAT_GUESS),
        new Call("told", false, false, Kind.WHAT_FIRST),
        new Call("told", false, false, Kind.WHAT_WEIGHT),
    };

    /** States that the calls are made in: SLIP, HEARS, LEARNER and WEIGHTS, a text, signs, and how much is heard. */
    private enum Start {
        NEW(new int[] {1, 2, 0, 1, 1, 1}, "", "", 0),
        CHANGED(new int[] {5, 3, 2, 2, 3, 4}, "1*0:4;**1:7", "0*1:", 2),
        FULL_OF_ALL(new int[] {0, 4, 1, 4, 4, 4}, "", "000:1;***:2;111:3;0*1:4;**0:5;101:6;000:", 6),
        READY(new int[] {2, 1, 0, 1, 2, 1}, "", "010:3;***:2", 5);

        private final int[] settings;
        private final String text;
        private final String signs;
        private final int heard;

        Start(int[] settings, String text, String signs, int heard) {
            this.settings = settings;
            this.text = text;
            this.signs = signs;
            this.heard = heard;
        }

        private int hears() {
            return settings[1];
        }

        /** Brings a new object, or a plain one, there. */
        private <T> T brought(T x) throws Exception {
            for (int i = 0; i < 3; i++) {
                RefusalTest.answer(x, "set", i, settings[i]);
                RefusalTest.answer(x, "weight", i, settings[3 + i]);
            }
            for (char sign : text.toCharArray()) {
                RefusalTest.answer(x, "say", (int) sign);
            }
            RefusalTest.answer(x, "before");
            for (char sign : signs.toCharArray()) {
                RefusalTest.answer(x, "say", (int) sign);
            }
            for (int i = 0; i < heard; i++) {
                RefusalTest.answer(x, "hear", i % 3, i % 2);
            }
            return x;
        }

        TaughtTongues made() throws Exception {
            return brought(new TaughtTongues());
        }

        PlainTongues plain() throws Exception {
            return brought(new PlainTongues());
        }
    }

    public static void main(String[] args) throws Exception {
        for (Start start : Start.values()) {
            for (Call call : ALL_CALLS) {
                List<Object[]> mixes = new ArrayList<>();
                listMixes(call, new Object[call.kinds.length], 0, mixes);
                DUE.sentence("Calls that are refused answer, the first of these that fits: " + start + ", " + call.name);
                answersAreDue(start, call, mixes);
                DUE.sentence("They change nothing: " + start + ", " + call.name);
                nothingChanges(start, call, mixes);
            }
        }
        DUE.end();
    }

    private static long answer(Object x, String name, Object... arguments) throws Exception {
        Class<?>[] types = new Class<?>[arguments.length];
        Arrays.fill(types, int.class);
        return ((Number) x.getClass().getMethod(name, types).invoke(x, arguments)).longValue();
    }

    private static void listMixes(Call call, Object[] mix, int at, List<Object[]> mixes) {
        if (at == mix.length) {
            mixes.add(mix.clone());
            return;
        }
        for (int value : call.kinds[at].tried()) {
            mix[at] = value;
            listMixes(call, mix, at + 1, mixes);
        }
    }

    /** Refusals are numbered in the order in which they go ahead of one another: the first is the greatest below 0. */
    private static int dueRefusal(Start start, Call call, Object[] mix) {
        int first = MIN;
        for (int i = 0; i < mix.length; i++) {
            first = Math.max(first, refusalOf(start, call.kinds[i], (Integer) mix[i]));
        }
        if (call.name.equals("say") && start.signs.length() == 40 || call.name.equals("hear") && start.heard == 6) {
            first = Math.max(first, FULL);
        }
        if (call.name.equals("before") && start != Start.READY) {
            first = Math.max(first, NO);
        }
        return first == MIN ? FINE : first;
    }

    private static int refusalOf(Start start, Kind kind, int value) {
        int most = kind == Kind.OF_BOOK ? start.hears() : kind.most;
        boolean inside = value >= kind.least && value <= most;
        if (kind == Kind.LIVES && inside && value * start.hears() > 8) {
            return STATE;
        }
        return inside || kind.refusal == FINE ? MIN : kind.refusal;
    }

    private static void answersAreDue(Start start, Call call, List<Object[]> mixes) throws Exception {
        TaughtTongues x = start.made();
        PlainTongues plain = start.plain();
        int used = 0;
        for (Object[] mix : mixes) {
            int refusal = dueRefusal(start, call, mix);
            long due = refusal == FINE ? call.answer(plain, mix) : call.isFraction ? LOST + refusal : refusal;
            DUE.is(call.name + Arrays.toString(mix), due, call.answer(x, mix));
            used++;
            if (used == CALLS || call.changes && refusal == FINE) {
                x = start.made();
                plain = start.plain();
                used = 0;
            }
        }
    }

    private static void nothingChanges(Start start, Call call, List<Object[]> mixes) throws Exception {
        long[] due = picture(start.made());
        TaughtTongues x = start.made();
        x.lasts(1);
        int used = 0;
        for (Object[] mix : mixes) {
            if (call.changes && dueRefusal(start, call, mix) == FINE) {
                continue;
            }
            call.answer(x, mix);
            used++;
            if (used == CALLS) {
                isAsDue(due, x);
                x = start.made();
                used = 0;
            }
        }
        isAsDue(due, x);
    }

    private static void isAsDue(long[] due, TaughtTongues x) {
        long[] got = picture(x);
        for (int i = 0; i < due.length; i++) {
            DUE.is("look " + i, due[i], got[i]);
        }
    }

    /** All that can be seen of an object, at the end also by what it makes of its signs and how much room it has. */
    private static long[] picture(TaughtTongues x) {
        List<Long> seen = new ArrayList<>();
        for (int what : new int[] {0, 1, 2, 3, 4, 10, 11, 12}) {
            seen.add((long) x.told(what));
        }
        for (int tongue = 0; tongue < 8; tongue++) {
            seen.add((long) x.number(tongue));
            seen.add(x.likeness(tongue));
            seen.add(x.step(6, tongue, 0));
            seen.add(x.after(5, 2, tongue, 0));
            seen.add((long) x.chosen(tongue, -1));
        }
        seen.add((long) x.takes());
        seen.add((long) x.lasts(0));
        seen.add((long) x.fault());
        seen.add((long) x.before());
        for (int tongue = 0; tongue < 8; tongue++) {
            seen.add((long) x.number(tongue));
        }
        seen.add((long) x.say('0'));
        seen.add((long) x.hear(0, 0));
        seen.add((long) x.wipe());
        seen.add((long) x.forget());
        return seen.stream().mapToLong(Long::longValue).toArray();
    }
}
