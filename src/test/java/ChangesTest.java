import java.util.ArrayList;
import java.util.List;
import java.util.function.Consumer;

/**
 * "Nothing is promised beyond the answers and state changes described above": a call changes what its promise
 * says and no more, and calls that ask change nothing. Changes of two things come out the same in either order,
 * whether all is asked between them or nothing.
 */
public final class ChangesTest {
    private static final Due DUE = new Due();

    /** What is changed: changes of one thing may play upon one another, those of two may not. */
    private enum Thing { WEIGHT_0, WEIGHT_1, WEIGHT_2, SLIP, HEARS, LEARNER, SIGNS_AND_TEXT, HEARD }

    private static final class Change {
        private final String name;
        private final Thing thing;
        private final Consumer<TaughtTongues> calls;

        Change(String name, Thing thing, Consumer<TaughtTongues> calls) {
            this.name = name;
            this.thing = thing;
            this.calls = calls;
        }
    }

    private static final List<Change> CHANGES = List.of(
        new Change("weight(0, 4)", Thing.WEIGHT_0, x -> x.weight(0, 4)),
        new Change("weight(1, 2)", Thing.WEIGHT_1, x -> x.weight(1, 2)),
        new Change("weight(2, 3)", Thing.WEIGHT_2, x -> x.weight(2, 3)),
        new Change("set(0, 0)", Thing.SLIP, x -> x.set(0, 0)),
        new Change("set(0, 4)", Thing.SLIP, x -> x.set(0, 4)),
        new Change("set(1, 1)", Thing.HEARS, x -> x.set(1, 1)),
        new Change("set(1, 4)", Thing.HEARS, x -> x.set(1, 4)),
        new Change("set(2, 1)", Thing.LEARNER, x -> x.set(2, 1)),
        new Change("set(2, 2)", Thing.LEARNER, x -> x.set(2, 2)),
        new Change("say", Thing.SIGNS_AND_TEXT, x -> Given.sayAll(x, "1*")),
        new Change("wipe()", Thing.SIGNS_AND_TEXT, TaughtTongues::wipe),
        new Change("before()", Thing.SIGNS_AND_TEXT, ChangesTest::takeText),
        new Change("hear", Thing.HEARD, x -> Given.hearAll(x, 2, 1, 0, 1)),
        new Change("forget()", Thing.HEARD, TaughtTongues::forget));

    public static void main(String[] args) {
        for (boolean isUsed : new boolean[] {false, true}) {
            askingChangesNothing(isUsed);
            for (Change first : CHANGES) {
                for (Change second : CHANGES) {
                    if (first.thing != second.thing) {
                        ordersAreTheSame(isUsed, first, second);
                    }
                }
            }
        }
        everyChangeIsSeen();
        DUE.end();
    }

    private static void takeText(TaughtTongues x) {
        x.wipe();
        Given.sayAll(x, "1*0:4;**1:7");
        if (x.before() != 2) {
            throw new IllegalStateException("the text is not taken");
        }
    }

    private static TaughtTongues made(boolean isUsed) {
        if (!isUsed) {
            return new TaughtTongues();
        }
        TaughtTongues x = Given.with("011:5;0**:2", 3, 3, 0);
        Given.weights(x, 2, 4, 1);
        Given.sayAll(x, "0*1:");
        Given.hearAll(x, 0, 1, 1, 0, 1, 0);
        return x;
    }

    private static void askingChangesNothing(boolean isUsed) {
        DUE.sentence("calls that ask change nothing: " + (isUsed ? "used" : "new"));
        TaughtTongues x = made(isUsed);
        areTheSame("asked again", looks(x), looks(x));
    }

    private static void ordersAreTheSame(boolean isUsed, Change first, Change second) {
        DUE.sentence("a call changes no more than its promise says: " + (isUsed ? "used" : "new"));
        TaughtTongues asked = made(isUsed);
        looks(asked);
        first.calls.accept(asked);
        looks(asked);
        second.calls.accept(asked);
        TaughtTongues unasked = made(isUsed);
        second.calls.accept(unasked);
        first.calls.accept(unasked);
        areTheSame(first.name + " and " + second.name, looks(unasked), looks(asked));
    }

    /** A change that nothing shows would make the orders the same for no reason. */
    private static void everyChangeIsSeen() {
        DUE.sentence("each change is seen");
        for (Change change : CHANGES) {
            TaughtTongues x = made(true);
            change.calls.accept(x);
            DUE.holds(change.name, !looks(x).equals(looks(made(true))));
        }
    }

    private static void areTheSame(String when, List<Long> due, List<Long> got) {
        for (int i = 0; i < due.size(); i++) {
            DUE.is(when + ", look " + i, due.get(i), got.get(i));
        }
    }

    /** An answer of each call that asks, and of most for each tongue: three times as many fit into the 512 calls. */
    private static List<Long> looks(TaughtTongues x) {
        List<Long> seen = new ArrayList<>();
        for (int what : new int[] {0, 1, 2, 3, 4, 10, 11, 12}) {
            seen.add((long) x.told(what));
        }
        for (int tongue = 0; tongue < 8; tongue++) {
            seen.add((long) x.number(tongue));
            seen.add(x.likeness(tongue));
            seen.add(x.thinks(tongue, 1));
            seen.add(x.step(5, tongue, 0));
            seen.add(x.book(2, 1, 7, tongue, 0));
            seen.add(x.after(3, 2, tongue, 0));
            seen.add((long) x.leads(tongue));
            seen.add(x.lives(tongue, 1, 1, 2, 0));
            seen.add((long) x.often(tongue, 0, 7));
            seen.add((long) x.chosen(tongue, -1));
            seen.add(x.back(tongue, 1, 6, 1));
            seen.add((long) x.guess(tongue, 2, 0));
        }
        seen.add((long) x.fault());
        seen.add((long) x.takes());
        seen.add((long) x.guess(0, 1, 1));
        for (int what = 0; what <= 2; what++) {
            seen.add((long) x.lasts(what));
        }
        return seen;
    }
}
