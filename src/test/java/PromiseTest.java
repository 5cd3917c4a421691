/** Each promise by itself: ordinary inputs, the edges that the document names, and wrong inputs. */
public final class PromiseTest {
    private static final Due DUE = new Due();
    private static final int MIN = Integer.MIN_VALUE;
    private static final int MAX = Integer.MAX_VALUE;
    private static final int UNKNOWN = -1, OUTSIDE = -2, STATE = -3, FULL = -4, NO = -5, NONE = -6;
    private static final long LOST = -1000000000000000000L;

    public static void main(String[] args) {
        promise1NewObject();
        promise2Weight();
        promise3Set();
        promise4Say();
        promise5Wipe();
        promise6Fault();
        promise7Before();
        promise8Number();
        promise9Hear();
        promise10Forget();
        promise11Likeness();
        promise12Thinks();
        promise13Takes();
        promise14Step();
        promise15Book();
        promise16After();
        promise17Leads();
        promise18Lasts();
        promise19Lives();
        promise20Often();
        promise21Chosen();
        promise22Back();
        promise23Guess();
        promise24Told();
        DUE.end();
    }

    private static TaughtTongues withText(String text) {
        TaughtTongues x = new TaughtTongues();
        Given.sayAll(x, text);
        DUE.is("before() of " + text, (text.length() + 1) / 6, x.before());
        return x;
    }

    private static void toldAre(String when, TaughtTongues x, int... want) {
        int[] whats = {0, 1, 2, 3, 4, 10, 11, 12};
        for (int i = 0; i < whats.length; i++) {
            DUE.is(when + " told(" + whats[i] + ")", want[i], x.told(whats[i]));
        }
    }

    private static void promise1NewObject() {
        TaughtTongues x = new TaughtTongues();
        toldAre("1 new", x, 1, 2, 0, 0, 0, 1, 1, 1);
        for (int tongue = 0; tongue < 8; tongue++) {
            DUE.is("1 number", 1, x.number(tongue));
            DUE.is("1 likeness", 1, x.likeness(tongue));
        }
        DUE.is("1 wipe", 0, x.wipe());
        DUE.is("1 forget", 0, x.forget());
    }

    private static void promise2Weight() {
        TaughtTongues x = new TaughtTongues();
        DUE.is("2 weight(0, 4)", 1, x.weight(0, 4));
        DUE.is("2 weight(0, 1)", 4, x.weight(0, 1));
        DUE.is("2 weight(2, 3)", 1, x.weight(2, 3));
        DUE.is("2 weight(2, 2)", 3, x.weight(2, 2));
        for (int v : new int[] {0, 5, -1, MIN, MAX}) {
            DUE.is("2 weight v " + v, OUTSIDE, x.weight(1, v));
        }
        for (int meaning : new int[] {-1, 3, MIN, MAX}) {
            DUE.is("2 weight meaning " + meaning, UNKNOWN, x.weight(meaning, 2));
            DUE.is("2 unknown ahead of outside", UNKNOWN, x.weight(meaning, 0));
        }
        toldAre("2 refused ones changed nothing", x, 1, 2, 0, 0, 0, 1, 1, 2);
    }

    private static void promise3Set() {
        TaughtTongues x = new TaughtTongues();
        DUE.is("3 slip 5", 1, x.set(0, 5));
        DUE.is("3 slip 0", 5, x.set(0, 0));
        DUE.is("3 hears 4", 2, x.set(1, 4));
        DUE.is("3 hears 1", 4, x.set(1, 1));
        DUE.is("3 learner 2", 0, x.set(2, 2));
        DUE.is("3 learner 1", 2, x.set(2, 1));
        int[][] wrong = {{0, -1}, {0, 6}, {1, 0}, {1, 5}, {2, -1}, {2, 3}, {3, 1}, {-1, 1}, {MIN, 1}, {MAX, 1}, {0, MAX}, {1, MIN}};
        for (int[] pair : wrong) {
            DUE.is("3 set(" + pair[0] + ", " + pair[1] + ")", OUTSIDE, x.set(pair[0], pair[1]));
        }
        toldAre("3 refused ones changed nothing", x, 0, 1, 1, 0, 0, 1, 1, 1);
    }

    private static void promise4Say() {
        TaughtTongues x = new TaughtTongues();
        for (int sign : new int[] {32, 127, 0, -1, MIN, MAX}) {
            DUE.is("4 say(" + sign + ")", OUTSIDE, x.say(sign));
        }
        DUE.is("4 say(33)", 1, x.say(33));
        DUE.is("4 say(126)", 2, x.say(126));
        for (int i = 3; i <= 40; i++) {
            DUE.is("4 say the " + i, i, x.say(48));
        }
        DUE.is("4 full", FULL, x.say(48));
        DUE.is("4 outside ahead of full", OUTSIDE, x.say(32));
        DUE.is("4 told", 40, x.told(3));
    }

    private static void promise5Wipe() {
        TaughtTongues x = new TaughtTongues();
        DUE.is("5 wipe of none", 0, x.wipe());
        Given.sayAll(x, "abc");
        DUE.is("5 wipe", 3, x.wipe());
        DUE.is("5 told", 0, x.told(3));
        DUE.is("5 wipe again", 0, x.wipe());
        TaughtTongues y = withText("***:7");
        Given.sayAll(y, "000:1");
        DUE.is("5 wipe", 5, y.wipe());
        DUE.is("5 the text beforehand stays", 7, y.number(0));
    }

    private static void faultOf(String text, int want) {
        TaughtTongues x = new TaughtTongues();
        Given.sayAll(x, text);
        DUE.is("6 fault of " + text, want, x.fault());
        DUE.is("6 fault leaves the signs", text.length(), x.told(3));
        int lines = (text.length() + 1) / 6;
        DUE.is("7 before of " + text, want == NONE ? lines : NO, x.before());
    }

    private static void promise6Fault() {
        faultOf("", 0);
        faultOf("0", 1);
        faultOf("01*", 3);
        faultOf("01*:", 4);
        faultOf("01*:5", NONE);
        faultOf("01*:1", NONE);
        faultOf("01*:9", NONE);
        faultOf("01*:0", 4);
        faultOf("01*::", 4);
        faultOf("01*:5;", 6);
        faultOf("01*:55", 5);
        faultOf("01*;5", 3);
        faultOf("2", 0);
        faultOf("/11:1", 0);
        faultOf("0+0:1", 1);
        faultOf("00a:1", 2);
        faultOf(":", 0);
        faultOf(";", 0);
        faultOf("000:1;;", 6);
        faultOf("000:1;11x:1", 8);
        faultOf("000:0;x", 4);
        faultOf("000:1;***:2;111:3;0*1:4;**0:5;101:6", NONE);
        faultOf("000:1;***:2;111:3;0*1:4;**0:5;101:6;000:", 40);
        faultOf("000:1;***:2;111:3;0*1:4;**0:5;101:6;0000", 39);
    }

    private static void promise7Before() {
        TaughtTongues x = withText("1*0:4;**1:7");
        DUE.is("7 signs are empty", 0, x.told(3));
        DUE.is("7 before of none", NO, x.before());
        DUE.is("7 number stays", 4, x.number(1));
        Given.sayAll(x, "***:0");
        DUE.is("7 before with a fault", NO, x.before());
        DUE.is("7 signs stay", 5, x.told(3));
        DUE.is("7 number stays", 7, x.number(4));
        x.wipe();
        Given.sayAll(x, "000:3");
        DUE.is("7 a new text", 1, x.before());
        DUE.is("7 number 0", 3, x.number(0));
        DUE.is("7 the old text is gone", 1, x.number(1));
        DUE.is("7 the old text is gone", 1, x.number(4));
    }

    private static void promise8Number() {
        TaughtTongues x = withText("100:2;010:3;001:4;1**:5;*1*:6");
        int[] want = {1, 2, 3, 5, 4, 5, 6, 5};
        for (int tongue = 0; tongue < 8; tongue++) {
            DUE.is("8 number(" + tongue + ")", want[tongue], x.number(tongue));
        }
        for (int tongue : new int[] {-1, 8, MIN, MAX}) {
            DUE.is("8 number(" + tongue + ")", UNKNOWN, x.number(tongue));
        }
        DUE.is("8 the sixth line", 9, withText("000:1;000:2;000:3;000:4;000:5;111:9").number(7));
        DUE.is("8 the first line that fits", 1, withText("000:1;000:2;***:3").number(0));
    }

    private static void promise9Hear() {
        TaughtTongues x = new TaughtTongues();
        DUE.is("9 meaning 3", UNKNOWN, x.hear(3, 0));
        DUE.is("9 meaning -1", UNKNOWN, x.hear(-1, 2));
        DUE.is("9 meaning least", UNKNOWN, x.hear(MIN, 0));
        DUE.is("9 meaning most", UNKNOWN, x.hear(MAX, 0));
        for (int form : new int[] {-1, 2, MIN, MAX}) {
            DUE.is("9 form " + form, OUTSIDE, x.hear(2, form));
        }
        for (int i = 1; i <= 6; i++) {
            DUE.is("9 hear the " + i, i, x.hear(i % 3, i % 2));
        }
        DUE.is("9 full", FULL, x.hear(0, 0));
        DUE.is("9 outside ahead of full", OUTSIDE, x.hear(0, 2));
        DUE.is("9 unknown ahead of full", UNKNOWN, x.hear(3, 0));
        DUE.is("9 told", 6, x.told(4));
    }

    private static void promise10Forget() {
        TaughtTongues x = new TaughtTongues();
        x.hear(0, 1);
        x.hear(1, 1);
        DUE.is("10 forget", 2, x.forget());
        DUE.is("10 forget again", 0, x.forget());
        DUE.is("10 likeness is that of none", 1, x.likeness(3));
        DUE.is("10 takes", 0, x.takes());
        for (int i = 1; i <= 6; i++) {
            DUE.is("10 there is room again", i, x.hear(2, 0));
        }
        DUE.is("10 forget", 6, x.forget());
    }

    private static void promise11Likeness() {
        TaughtTongues x = withText("11*:9;0**:2");
        x.hear(0, 1);
        x.hear(0, 1);
        x.hear(1, 0);
        DUE.is("11 two of three, 9", 9 * 11 * 11, x.likeness(3));
        DUE.is("11 all, 1", 11 * 11 * 11, x.likeness(1));
        DUE.is("11 one of three, 2", 2 * 11, x.likeness(0));
        DUE.is("11 none, 2", 2, x.likeness(2));
        x.set(0, 5);
        DUE.is("11 slip 5", 9 * 7 * 7 * 5, x.likeness(3));
        x.set(0, 0);
        DUE.is("11 slip 0", 0, x.likeness(3));
        DUE.is("11 slip 0, all", 1728, x.likeness(1));
        TaughtTongues y = withText("***:9");
        y.set(0, 0);
        for (int i = 0; i < 6; i++) {
            y.hear(2, 1);
        }
        DUE.is("11 the most", 9L * 2985984L, y.likeness(4));
        for (int tongue : new int[] {-1, 8, MIN, MAX}) {
            DUE.is("11 likeness(" + tongue + ")", UNKNOWN, x.likeness(tongue));
        }
    }

    private static void promise12Thinks() {
        TaughtTongues x = new TaughtTongues();
        DUE.fraction("12 one of eight", 1, 8, x.thinks(5, 0), x.thinks(5, 1));
        x.hear(0, 1);
        DUE.fraction("12 11 of 48", 11, 48, x.thinks(1, 0), x.thinks(1, 1));
        DUE.fraction("12 1 of 48", 1, 48, x.thinks(0, 0), x.thinks(0, 1));
        x.set(0, 0);
        DUE.fraction("12 a quarter", 1, 4, x.thinks(7, 0), x.thinks(7, 1));
        DUE.fraction("12 nothing", 0, 1, x.thinks(6, 0), x.thinks(6, 1));
        x.hear(0, 0);
        DUE.fraction("12 none together", 0, 1, x.thinks(7, 0), x.thinks(7, 1));
        DUE.is("12 tongue 8", LOST - 1, x.thinks(8, 0));
        DUE.is("12 tongue -1", LOST - 1, x.thinks(-1, 5));
        DUE.is("12 part 2", LOST - 2, x.thinks(0, 2));
        DUE.is("12 part -1", LOST - 2, x.thinks(0, -1));
    }

    private static int taken(TaughtTongues x, int learner) {
        x.set(2, learner);
        return x.takes();
    }

    private static void promise13Takes() {
        TaughtTongues x = withText("110:9;001:9");
        DUE.is("13 best takes the least", 3, taken(x, 0));
        DUE.is("13 lazy takes the first", 0, taken(x, 1));
        DUE.is("13 mind takes the fewest ones", 4, taken(x, 2));
        x.hear(2, 1);
        DUE.is("13 best", 4, taken(x, 0));
        x.hear(0, 1);
        DUE.is("13 lazy takes the least that fits", 5, taken(x, 1));
        DUE.is("13 best, both have one", 5, taken(withHeard("000:1", 0, 1, 2, 1), 0));
        x.hear(0, 0);
        DUE.is("13 lazy as best, if none fits", taken(x, 0), taken(x, 1));
        DUE.is("13 lazy as best", 4, taken(x, 1));
        TaughtTongues y = withText("110:9;101:9");
        DUE.is("13 mind, as many ones: the least", 3, taken(y, 2));
        TaughtTongues z = new TaughtTongues();
        z.set(0, 0);
        z.hear(1, 0);
        z.hear(1, 1);
        DUE.is("13 none can be", 0, taken(z, 0));
        DUE.is("13 none can be", 0, taken(z, 1));
        DUE.is("13 none can be", 0, taken(z, 2));
    }

    private static TaughtTongues withHeard(String text, int... sayings) {
        TaughtTongues x = withText(text);
        for (int i = 0; i < sayings.length; i += 2) {
            x.hear(sayings[i], sayings[i + 1]);
        }
        return x;
    }

    private static void promise14Step() {
        TaughtTongues x = Given.with(1, 1, 0);
        DUE.fraction("14 step(0, 0)", 11, 12, x.step(0, 0, 0), x.step(0, 0, 1));
        DUE.fraction("14 step(0, 1)", 1, 36, x.step(0, 1, 0), x.step(0, 1, 1));
        DUE.fraction("14 step(0, 3)", 0, 1, x.step(0, 3, 0), x.step(0, 3, 1));
        x.weight(0, 4);
        DUE.fraction("14 by weight", 1, 18, x.step(0, 1, 0), x.step(0, 1, 1));
        DUE.fraction("14 by weight", 1, 72, x.step(0, 2, 0), x.step(0, 2, 1));
        x.set(0, 0);
        DUE.fraction("14 no slip", 2, 3, x.step(7, 1, 0), x.step(7, 1, 1));
        DUE.fraction("14 no slip", 1, 1, x.step(0, 0, 0), x.step(0, 0, 1));
        x.hear(0, 1);
        DUE.fraction("14 what is heard plays no part", 1, 1, x.step(0, 0, 0), x.step(0, 0, 1));
        Given.sayAll(x, "111:9");
        x.before();
        DUE.fraction("14 by the text", 1, 1, x.step(7, 7, 0), x.step(7, 7, 1));
        x.set(2, 1);
        DUE.fraction("14 by the learner", 2, 3, x.step(7, 1, 0), x.step(7, 1, 1));
        // only the three sayings of 7, in six orders, bring one to 7: 6 * 11 * 11 * 11 of 36 * 36 * 36
        TaughtTongues y = Given.with(1, 3, 0);
        DUE.fraction("14 three sayings", 1331, 7776, y.step(7, 7, 0), y.step(7, 7, 1));
        // four sayings without slips: 36 of 81 rows have all three meanings
        TaughtTongues z = Given.with(0, 4, 0);
        DUE.fraction("14 four sayings", 4, 9, z.step(7, 7, 0), z.step(7, 7, 1));
        DUE.fraction("14 four sayings", 14, 81, z.step(7, 6, 0), z.step(7, 6, 1));
        DUE.is("14 from 8", LOST - 1, x.step(8, 0, 0));
        DUE.is("14 to -1", LOST - 1, x.step(0, -1, 7));
        DUE.is("14 part -1", LOST - 2, x.step(0, 0, -1));
        DUE.is("14 part 2", LOST - 2, x.step(0, 0, 2));
    }

    private static void promise15Book() {
        TaughtTongues x = Given.with(1, 1, 0);
        x.weight(0, 4);
        DUE.fraction("15 all by the book", 11, 18, x.book(7, 1, 0, 1, 0), x.book(7, 1, 0, 1, 1));
        DUE.fraction("15 none by the book", 1, 18, x.book(7, 0, 0, 1, 0), x.book(7, 0, 0, 1, 1));
        DUE.is("15 b 2 of 1", LOST - 2, x.book(7, 2, 0, 1, 0));
        x.set(1, 2);
        DUE.is("15 b 2 of 2", x.step(7, 1, 0), x.book(7, 2, 0, 1, 0));
        TaughtTongues y = Given.with(0, 2, 0);
        y.weight(0, 2);
        DUE.fraction("15 1 and 2 together", 1, 8, y.book(1, 1, 2, 3, 0), y.book(1, 1, 2, 3, 1));
        DUE.is("15 book 8", LOST - 1, x.book(8, 9, 0, 0, 9));
        DUE.is("15 from -1", LOST - 1, x.book(0, 0, -1, 0, 0));
        DUE.is("15 to 8", LOST - 1, x.book(0, 0, 0, 8, 0));
        DUE.is("15 b -1", LOST - 2, x.book(0, -1, 0, 0, 0));
        DUE.is("15 part 2", LOST - 2, x.book(0, 0, 0, 0, 2));
    }

    private static void promise16After() {
        TaughtTongues x = Given.with(1, 1, 0);
        DUE.fraction("16 one life", 11, 12, x.after(0, 1, 0, 0), x.after(0, 1, 0, 1));
        // 0 stays by 33/36; 1, 2, 4 come by 1/36 each and go back by 23/36
        DUE.fraction("16 two lives", 193, 216, x.after(0, 2, 0, 0), x.after(0, 2, 0, 1));
        DUE.fraction("16 to one that none comes to", 0, 1, x.after(7, 4, 7, 0), x.after(7, 4, 7, 1));
        DUE.fraction("16 ahead of a change", 1, 36, x.after(0, 1, 1, 0), x.after(0, 1, 1, 1));
        x.weight(0, 4);
        DUE.fraction("16 by the weight of now", 1, 18, x.after(0, 1, 1, 0), x.after(0, 1, 1, 1));
        x.set(0, 0);
        DUE.fraction("16 by the slip of now", 0, 1, x.after(0, 1, 1, 0), x.after(0, 1, 1, 1));
        Given.sayAll(x, "100:9");
        x.before();
        DUE.fraction("16 by the text of now", 1, 3, x.after(0, 1, 1, 0), x.after(0, 1, 1, 1));
        x.set(2, 1);
        DUE.fraction("16 by the learner of now", 0, 1, x.after(0, 1, 1, 0), x.after(0, 1, 1, 1));
        x.set(1, 2);
        DUE.holds("16 hears 2, k 4 is eight", x.after(0, 4, 0, 0) > 0);
        x.set(1, 3);
        DUE.holds("16 hears 3, k 2", x.after(0, 2, 0, 0) > 0);
        DUE.is("16 hears 3, k 3", LOST - 3, x.after(0, 3, 0, 0));
        x.set(1, 4);
        DUE.holds("16 hears 4, k 2", x.after(0, 2, 0, 0) > 0);
        DUE.is("16 hears 4, k 3", LOST - 3, x.after(0, 3, 0, 0));
        DUE.is("16 outside ahead of state", LOST - 2, x.after(0, 3, 0, 2));
        DUE.is("16 unknown ahead of outside", LOST - 1, x.after(8, 5, 0, 2));
        for (int k : new int[] {0, 5, -1, MIN, MAX}) {
            DUE.is("16 k " + k, LOST - 2, x.after(0, k, 0, 0));
        }
        DUE.is("16 to 8", LOST - 1, x.after(0, 1, 8, 0));
    }

    private static void promise17Leads() {
        TaughtTongues x = Given.with(0, 1, 0);
        DUE.is("17 leads(0)", 1, x.leads(0));
        DUE.is("17 leads(7)", 128 + 16 + 4 + 2 + 1, x.leads(7));
        DUE.is("17 leads(3)", 8 + 4 + 2 + 1, x.leads(3));
        TaughtTongues y = withText("011:9");
        y.set(0, 0);
        y.set(1, 1);
        DUE.is("17 from 1 to 6 by way of 0 alone", 64 + 2 + 1, y.leads(1));
        DUE.is("17 from 6 nowhere", 64, y.leads(6));
        DUE.is("17 of a new object", 127, new TaughtTongues().leads(0));
        x.set(0, 1);
        DUE.is("17 by slips, and itself by 0 lives", 32 + 16 + 4 + 2 + 1, x.leads(5));
        x.set(1, 3);
        DUE.is("17 all", 255, x.leads(5));
        for (int tongue : new int[] {-1, 8, MIN, MAX}) {
            DUE.is("17 leads(" + tongue + ")", UNKNOWN, x.leads(tongue));
        }
    }

    private static void promise18Lasts() {
        TaughtTongues x = Given.with(0, 1, 0);
        lastsAre("no slip", x, 1, 1, 1);
        lastsAre("slips", Given.with(1, 1, 0), 16 + 4 + 2 + 1, 1, 0);
        lastsAre("slips, three", Given.with(1, 3, 0), 255, 1, 0);
        TaughtTongues two = withText("000:9;111:9");
        two.set(0, 0);
        two.set(1, 1);
        lastsAre("two kept", two, 129, 2, 129);
        // behind a saying of 0 for meaning 0 all take 6, of 1 all take 1: 6 and 1 are kept
        TaughtTongues round = withText("011:9;100:9");
        round.set(0, 0);
        round.set(1, 1);
        lastsAre("two sides", round, 2 + 64, 2, 2 + 64);
        for (int what : new int[] {-1, 3, MIN, MAX}) {
            DUE.is("18 lasts(" + what + ")", OUTSIDE, x.lasts(what));
        }
    }

    private static void lastsAre(String when, TaughtTongues x, int lasting, int parts, int kept) {
        DUE.is("18 lasts(0), " + when, lasting, x.lasts(0));
        DUE.is("18 lasts(1), " + when, parts, x.lasts(1));
        DUE.is("18 lasts(2), " + when, kept, x.lasts(2));
    }

    private static void promise19Lives() {
        TaughtTongues x = Given.with(1, 1, 0);
        DUE.fraction("19 form 1", 1, 36, x.lives(0, 0, 1, 1, 0), x.lives(0, 0, 1, 1, 1));
        DUE.fraction("19 form 0", 35, 36, x.lives(0, 0, 0, 1, 0), x.lives(0, 0, 0, 1, 1));
        x.set(0, 0);
        DUE.fraction("19 two lives", 1, 9, x.lives(7, 2, 1, 2, 0), x.lives(7, 2, 1, 2, 1));
        DUE.is("19 meaning 3", LOST - 1, x.lives(0, 3, 2, 1, 0));
        DUE.is("19 tongue 8", LOST - 1, x.lives(8, 0, 0, 1, 0));
        DUE.is("19 form 2", LOST - 2, x.lives(0, 0, 2, 1, 0));
        DUE.is("19 form -1", LOST - 2, x.lives(0, 0, -1, 1, 0));
        DUE.is("19 k 0", LOST - 2, x.lives(0, 0, 0, 0, 0));
        DUE.is("19 k 5", LOST - 2, x.lives(0, 0, 0, 5, 0));
        DUE.is("19 part 2", LOST - 2, x.lives(0, 0, 0, 1, 2));
        x.set(1, 4);
        DUE.is("19 state", LOST - 3, x.lives(0, 0, 0, 3, 0));
        DUE.is("19 outside ahead of state", LOST - 2, x.lives(0, 0, 2, 3, 0));
    }

    private static void promise20Often() {
        TaughtTongues x = Given.with(0, 1, 0);
        // its form 1 is kept by weight / (weight + 2): 4, 6, 7.2, 8 twelfths
        DUE.is("20 h 0", 1, x.often(7, 0, 0));
        DUE.is("20 h 4", 1, x.often(7, 0, 4));
        DUE.is("20 h 5", 2, x.often(7, 0, 5));
        DUE.is("20 h 6", 2, x.often(7, 0, 6));
        DUE.is("20 h 7", 3, x.often(7, 0, 7));
        DUE.is("20 h 8", 4, x.often(7, 0, 8));
        DUE.is("20 h 9", NONE, x.often(7, 0, 9));
        DUE.is("20 h 12 of form 0", 1, x.often(0, 0, 12));
        x.weight(0, 3);
        x.weight(1, 4);
        DUE.is("20 the own weight plays no part, others' do", 3, x.often(7, 0, 4));
        DUE.is("20 weights stay", 3, x.told(10));
        DUE.fraction("20 steps stay", 3, 8, x.step(7, 1, 0), x.step(7, 1, 1));
        DUE.is("20 meaning 3", UNKNOWN, x.often(0, 3, 13));
        DUE.is("20 tongue -1", UNKNOWN, x.often(-1, 0, 0));
        DUE.is("20 h 13", OUTSIDE, x.often(0, 0, 13));
        DUE.is("20 h -1", OUTSIDE, x.often(0, 0, -1));
    }

    private static void chosenAre(TaughtTongues x, int tongue, int... meanings) {
        DUE.is("21 chosen(" + tongue + ", -1)", meanings.length, x.chosen(tongue, -1));
        for (int i = 0; i < meanings.length; i++) {
            DUE.is("21 chosen(" + tongue + ", " + i + ")", meanings[i], x.chosen(tongue, i));
        }
        for (int i : new int[] {meanings.length, 4, -2, MIN, MAX}) {
            DUE.is("21 chosen(" + tongue + ", " + i + ")", NONE, x.chosen(tongue, i));
        }
    }

    private static void promise21Chosen() {
        TaughtTongues x = new TaughtTongues();
        chosenAre(x, 0, 0);
        chosenAre(x, 1, 0);
        chosenAre(x, 2, 1);
        chosenAre(x, 4, 2);
        chosenAre(x, 6, 1, 2);
        chosenAre(x, 7, 0, 1, 2);
        TaughtTongues y = withText("011:9");
        y.set(0, 4);
        // a saying doubles: only four of one meaning outweigh the 9 of tongue 6, then the least takes all
        chosenAre(y, 0, 1, 1, 1, 1);
        chosenAre(y, 1, 0, 0, 0, 0);
        chosenAre(y, 6, 0);
        DUE.is("21 none", NONE, y.chosen(7, -1));
        DUE.is("21 none", NONE, y.chosen(7, 0));
        for (int tongue : new int[] {-1, 8, MIN, MAX}) {
            DUE.is("21 chosen(" + tongue + ")", UNKNOWN, x.chosen(tongue, -1));
        }
        x.hear(0, 1);
        x.set(1, 1);
        chosenAre(x, 6, 1, 2);
    }

    private static void promise22Back() {
        TaughtTongues x = Given.with(0, 1, 0);
        // to 0: from 0 by 1, from 1, 2, 4 by 2/3, from 3, 5, 6 by 1/3: 4 in all
        DUE.fraction("22 was 0", 1, 4, x.back(0, 1, 0, 0), x.back(0, 1, 0, 1));
        DUE.fraction("22 was 2", 1, 6, x.back(0, 1, 2, 0), x.back(0, 1, 2, 1));
        DUE.fraction("22 was 6", 1, 12, x.back(0, 1, 6, 0), x.back(0, 1, 6, 1));
        DUE.fraction("22 was 7", 0, 1, x.back(0, 1, 7, 0), x.back(0, 1, 7, 1));
        DUE.fraction("22 none can be", 0, 1, x.back(7, 1, 7, 0), x.back(7, 1, 7, 1));
        // two lives to 1: from 1, 3, 5, 7 by 1/9 each
        DUE.fraction("22 two lives", 1, 4, x.back(1, 2, 7, 0), x.back(1, 2, 7, 1));
        DUE.is("22 tongue 8", LOST - 1, x.back(8, 0, 0, 0));
        DUE.is("22 was -1", LOST - 1, x.back(0, 0, -1, 0));
        DUE.is("22 k 0", LOST - 2, x.back(0, 0, 0, 0));
        DUE.is("22 k 5", LOST - 2, x.back(0, 5, 0, 0));
        DUE.is("22 part 2", LOST - 2, x.back(0, 1, 0, 2));
        x.set(1, 3);
        DUE.is("22 state", LOST - 3, x.back(0, 3, 0, 0));
        DUE.is("22 outside ahead of state", LOST - 2, x.back(0, 3, 0, 2));
    }

    private static void promise23Guess() {
        TaughtTongues x = Given.with(0, 1, 0);
        DUE.is("23 guess(0)", 0, x.guess(0, 1, 0));
        DUE.is("23 the least of several", 1, x.guess(1, 1, 0));
        DUE.is("23 the least of several", 4, x.guess(4, 2, 0));
        DUE.is("23 none can be", NONE, x.guess(3, 1, 0));
        DUE.is("23 not deaf", 0, x.guess(1, 1, 1));
        DUE.is("23 deaf by none", 1, x.guess(3, 1, 1));
        TaughtTongues y = withText("011:9");
        y.set(0, 4);
        y.set(1, 1);
        DUE.is("23 all come to 6: deaf", 1, y.guess(6, 1, 1));
        DUE.is("23 all come to 6: the least", 0, y.guess(6, 1, 0));
        DUE.is("23 tongue 8", UNKNOWN, x.guess(8, 0, 0));
        DUE.is("23 k 0", OUTSIDE, x.guess(0, 0, 0));
        DUE.is("23 k 5", OUTSIDE, x.guess(0, 5, 0));
        DUE.is("23 what 2", OUTSIDE, x.guess(0, 1, 2));
        DUE.is("23 what -1", OUTSIDE, x.guess(0, 1, -1));
        x.set(1, 4);
        DUE.is("23 state", STATE, x.guess(0, 3, 0));
        DUE.is("23 outside ahead of state", OUTSIDE, x.guess(0, 3, 2));
    }

    private static void promise24Told() {
        TaughtTongues x = Given.with(5, 3, 2);
        x.say(40);
        x.say(41);
        x.hear(0, 0);
        x.weight(0, 2);
        x.weight(1, 3);
        x.weight(2, 4);
        toldAre("24", x, 5, 3, 2, 2, 1, 2, 3, 4);
        for (int what : new int[] {-1, 5, 9, 13, MIN, MAX}) {
            DUE.is("24 told(" + what + ")", OUTSIDE, x.told(what));
        }
    }
}
