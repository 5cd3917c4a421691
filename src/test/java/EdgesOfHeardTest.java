/** Section 2 of the document and promises 9 to 13: each sentence that names a bound, by itself. */
public final class EdgesOfHeardTest {
    private static final Due DUE = new Due();
    private static final int MIN = Integer.MIN_VALUE;
    private static final int MAX = Integer.MAX_VALUE;
    private static final int UNKNOWN = -1, OUTSIDE = -2, FULL = -4;
    private static final long LOST = -1000000000000000000L;
    private static final int BEST = 0, LAZY = 1, MIND = 2;

    public static void main(String[] args) {
        hearMeaning();
        hearForm();
        sixAtMost();
        hearRefusalsAtOnce();
        fullChangesNothing();
        forgetNoneAndAll();
        likenessOfNothing();
        likenessOfEachSaying();
        likenessBySlip();
        likenessOfSix();
        likenessRefused();
        thinksTogether();
        thinksNothing();
        thinksRefused();
        bestOfSeveral();
        bestOfNothing();
        lazyLeast();
        lazyAsBest();
        mindOfSeveral();
        noneIsLikely();
        takesGoesByNow();
        DUE.end();
    }

    // ---- promise 9

    private static void hearMeaning() {
        DUE.sentence("9 MEANINGS 0 to 2; UNKNOWN");
        TaughtTongues x = new TaughtTongues();
        for (int meaning = 0; meaning <= 2; meaning++) {
            DUE.is("hear(" + meaning + ", 1)", meaning + 1, x.hear(meaning, 1));
        }
        DUE.is("each is another: likeness(7)", 11 * 11 * 11, x.likeness(7));
        for (int meaning : new int[] {-1, 3, MIN, MAX}) {
            DUE.is("hear(" + meaning + ", 1)", UNKNOWN, x.hear(meaning, 1));
            DUE.is("told(4)", 3, x.told(4));
        }
        DUE.is("likeness(7) stays", 11 * 11 * 11, x.likeness(7));
    }

    private static void hearForm() {
        DUE.sentence("9 OUTSIDE: the FORM (0, 1)");
        TaughtTongues x = new TaughtTongues();
        DUE.is("hear(2, 0)", 1, x.hear(2, 0));
        DUE.is("likeness(3)", 11, x.likeness(3));
        DUE.is("likeness(4)", 1, x.likeness(4));
        DUE.is("hear(2, 1)", 2, x.hear(2, 1));
        DUE.is("likeness(3)", 11, x.likeness(3));
        DUE.is("likeness(4)", 11, x.likeness(4));
        for (int form : new int[] {-1, 2, MIN, MAX}) {
            DUE.is("hear(2, " + form + ")", OUTSIDE, x.hear(2, form));
            DUE.is("told(4)", 2, x.told(4));
        }
        DUE.is("likeness(3) stays", 11, x.likeness(3));
        DUE.is("likeness(4) stays", 11, x.likeness(4));
    }

    private static void sixAtMost() {
        DUE.sentence("9 HEARD is a row of SAYINGS, 6 at most. A SAYING more: how many. FULL");
        TaughtTongues x = new TaughtTongues();
        for (int i = 1; i <= 6; i++) {
            DUE.is("the " + i, i, x.hear(1, 1));
            DUE.is("told(4)", i, x.told(4));
        }
        for (int saying = 0; saying < 6; saying++) {
            DUE.is("the seventh", FULL, x.hear(saying / 2, saying % 2));
        }
        DUE.is("told(4)", 6, x.told(4));
    }

    private static void hearRefusalsAtOnce() {
        DUE.sentence("9 the first of these that fits: UNKNOWN; OUTSIDE: the FORM; FULL");
        TaughtTongues x = new TaughtTongues();
        DUE.is("UNKNOWN ahead of OUTSIDE", UNKNOWN, x.hear(3, 2));
        DUE.is("UNKNOWN ahead of OUTSIDE", UNKNOWN, x.hear(-1, -1));
        Given.hearAll(x, 0, 0, 0, 0, 0, 0, 0, 0, 0, 0, 0, 0);
        DUE.is("UNKNOWN ahead of FULL", UNKNOWN, x.hear(3, 0));
        DUE.is("OUTSIDE ahead of FULL", OUTSIDE, x.hear(0, 2));
        DUE.is("UNKNOWN ahead of both", UNKNOWN, x.hear(-1, 2));
        DUE.is("FULL alone", FULL, x.hear(0, 0));
    }

    private static void fullChangesNothing() {
        DUE.sentence("9 FULL: They change nothing");
        TaughtTongues x = new TaughtTongues();
        Given.hearAll(x, 0, 1, 0, 1, 1, 1, 1, 1, 2, 1, 2, 1);
        x.hear(0, 0);
        x.hear(2, 0);
        DUE.is("likeness(7)", 11 * 11 * 11 * 11 * 11 * 11, x.likeness(7));
        DUE.is("likeness(0)", 1, x.likeness(0));
        DUE.is("forget()", 6, x.forget());
    }

    private static void forgetNoneAndAll() {
        DUE.sentence("10 All is forgotten: how many there were");
        TaughtTongues x = new TaughtTongues();
        DUE.is("of none", 0, x.forget());
        x.hear(0, 1);
        DUE.is("of one", 1, x.forget());
        DUE.is("of none again", 0, x.forget());
        Given.hearAll(x, 0, 1, 1, 1, 2, 1, 0, 1, 1, 1, 2, 1);
        DUE.is("takes()", 7, x.takes());
        DUE.is("of all", 6, x.forget());
        DUE.is("told(4)", 0, x.told(4));
        DUE.is("takes()", 0, x.takes());
        DUE.is("likeness(7)", 1, x.likeness(7));
        for (int i = 1; i <= 6; i++) {
            DUE.is("there is room for the " + i, i, x.hear(2, 1));
        }
        DUE.is("and for no more", FULL, x.hear(2, 1));
    }

    // ---- promise 11

    private static void likenessOfNothing() {
        DUE.sentence("11 LIKENESS of a TONGUE: its number BEFOREHAND, if nothing is HEARD");
        TaughtTongues x = Given.with("000:9;111:2", 0, 2, 0);
        DUE.is("likeness(0)", 9, x.likeness(0));
        DUE.is("likeness(3)", 1, x.likeness(3));
        DUE.is("likeness(7)", 2, x.likeness(7));
    }

    private static void likenessOfEachSaying() {
        DUE.sentence("11 times 12 less SLIP for each SAYING of HEARD whose FORM it has, times SLIP for each other one");
        TaughtTongues x = Given.with("111:9", 2, 2, 0);
        Given.hearAll(x, 0, 1, 0, 1, 0, 0, 1, 1, 2, 0);
        DUE.is("likeness(7): 3 of 5", 9 * 10 * 10 * 10 * 2 * 2, x.likeness(7));
        DUE.is("likeness(3): 4 of 5", 10 * 10 * 10 * 10 * 2, x.likeness(3));
        DUE.is("likeness(0): 2 of 5", 10 * 10 * 2 * 2 * 2, x.likeness(0));
        DUE.is("likeness(4): 1 of 5", 10 * 2 * 2 * 2 * 2, x.likeness(4));
    }

    private static void likenessBySlip() {
        DUE.sentence("11 SLIP 0 and SLIP 5");
        TaughtTongues x = Given.with("***:3", 0, 2, 0);
        Given.hearAll(x, 0, 1, 1, 0);
        DUE.is("SLIP 0, both", 3 * 12 * 12, x.likeness(1));
        DUE.is("SLIP 0, one", 0, x.likeness(3));
        DUE.is("SLIP 0, none", 0, x.likeness(2));
        x.set(0, 5);
        DUE.is("SLIP 5, both", 3 * 7 * 7, x.likeness(1));
        DUE.is("SLIP 5, one", 3 * 7 * 5, x.likeness(3));
        DUE.is("SLIP 5, none", 3 * 5 * 5, x.likeness(2));
    }

    private static void likenessOfSix() {
        DUE.sentence("11 LIKENESS by six SAYINGS, the least and the most");
        TaughtTongues x = Given.with("***:9", 0, 2, 0);
        Given.hearAll(x, 0, 1, 0, 1, 0, 1, 0, 1, 0, 1, 0, 1);
        DUE.is("9 times 12 six times", 26873856, x.likeness(1));
        DUE.is("nothing", 0, x.likeness(0));
        x.set(0, 1);
        DUE.is("9 times 11 six times", 15944049, x.likeness(7));
        DUE.is("9 times 1 six times", 9, x.likeness(6));
        x.set(0, 5);
        DUE.is("9 times 7 six times", 1058841, x.likeness(1));
        DUE.is("9 times 5 six times", 140625, x.likeness(0));
    }

    private static void likenessRefused() {
        DUE.sentence("11 TONGUES 0 to 7; UNKNOWN");
        TaughtTongues x = new TaughtTongues();
        Given.hearAll(x, 0, 1);
        DUE.is("likeness(0)", 1, x.likeness(0));
        DUE.is("likeness(7)", 11, x.likeness(7));
        for (int tongue : new int[] {-1, 8, MIN, MAX}) {
            DUE.is("likeness(" + tongue + ")", UNKNOWN, x.likeness(tongue));
        }
    }

    // ---- promise 12

    private static void thinksTogether() {
        DUE.sentence("12 LIKENESS of a TONGUE by that of all TONGUES together");
        TaughtTongues x = Given.with("000:9", 1, 2, 0);
        DUE.fraction("9 by 9 and seven times 1", 9, 16, x.thinks(0, 0), x.thinks(0, 1));
        DUE.fraction("1 by 16", 1, 16, x.thinks(7, 0), x.thinks(7, 1));
        TaughtTongues y = Given.with(0, 2, 0);
        Given.hearAll(y, 0, 1, 1, 1, 2, 1);
        DUE.fraction("one alone: 1 by 1", 1, 1, y.thinks(7, 0), y.thinks(7, 1));
        TaughtTongues z = Given.with("***:9", 0, 2, 0);
        Given.hearAll(z, 2, 1, 2, 1, 2, 1, 2, 1, 2, 1, 2, 1);
        DUE.fraction("the greatest LIKENESS, in lowest terms", 1, 4, z.thinks(7, 0), z.thinks(7, 1));
    }

    private static void thinksNothing() {
        DUE.sentence("12 (0 by 1, if that is 0)");
        TaughtTongues x = Given.with("***:9", 0, 2, 0);
        Given.hearAll(x, 0, 1);
        DUE.fraction("it alone is 0", 0, 1, x.thinks(0, 0), x.thinks(0, 1));
        Given.hearAll(x, 0, 0);
        for (int tongue = 0; tongue < 8; tongue++) {
            DUE.fraction("all together are 0", 0, 1, x.thinks(tongue, 0), x.thinks(tongue, 1));
        }
        x.set(0, 1);
        DUE.fraction("with slips they are not", 1, 8, x.thinks(0, 0), x.thinks(0, 1));
    }

    private static void thinksRefused() {
        DUE.sentence("12 UNKNOWN, OUTSIDE (LOST less 1, 2)");
        TaughtTongues x = new TaughtTongues();
        for (int tongue : new int[] {-1, 8, MIN, MAX}) {
            DUE.is("thinks(" + tongue + ", 0)", LOST - 1, x.thinks(tongue, 0));
            DUE.is("UNKNOWN ahead of OUTSIDE", LOST - 1, x.thinks(tongue, 2));
            DUE.is("UNKNOWN ahead of OUTSIDE", LOST - 1, x.thinks(tongue, -1));
        }
        for (int part : new int[] {-1, 2, MIN, MAX}) {
            DUE.is("thinks(0, " + part + ")", LOST - 2, x.thinks(0, part));
            DUE.is("thinks(7, " + part + ")", LOST - 2, x.thinks(7, part));
        }
        Given.hearAll(x, 0, 1, 0, 0);
        x.set(0, 0);
        DUE.is("OUTSIDE where all together are 0, too", LOST - 2, x.thinks(0, 2));
    }

    // ---- promise 13

    private static int taken(TaughtTongues x, int learner) {
        x.set(2, learner);
        return x.takes();
    }

    private static void bestOfSeveral() {
        DUE.sentence("13 0 BEST takes the TONGUE of the greatest LIKENESS, of several the least");
        TaughtTongues x = Given.with("001:8;110:8;111:9", 1, 2, BEST);
        DUE.is("the greatest, though it is the last", 7, x.takes());
        TaughtTongues y = Given.with("001:9;110:9;111:9", 1, 2, BEST);
        DUE.is("of several the least, though it has more 1", 3, y.takes());
        Given.hearAll(y, 2, 1);
        DUE.is("of 4 and 7 the least", 4, y.takes());
        Given.hearAll(y, 0, 1);
        DUE.is("7 has both", 7, y.takes());
        Given.hearAll(y, 0, 0, 2, 0);
        DUE.is("each has two of four, or of 3 and 4 and 7 the least", 3, y.takes());
    }

    private static void bestOfNothing() {
        DUE.sentence("13 What the LEARNER takes by HEARD, if nothing is HEARD");
        TaughtTongues x = new TaughtTongues();
        DUE.is("BEST without a text", 0, taken(x, BEST));
        DUE.is("LAZY without a text", 0, taken(x, LAZY));
        DUE.is("MIND without a text", 0, taken(x, MIND));
        TaughtTongues y = Given.with("011:9", 1, 2, BEST);
        DUE.is("BEST by the text", 6, taken(y, BEST));
        DUE.is("LAZY: all TONGUES have the FORMS of none", 0, taken(y, LAZY));
        DUE.is("MIND by the text", 6, taken(y, MIND));
    }

    private static void lazyLeast() {
        DUE.sentence("13 1 LAZY the least TONGUE that has the FORMS of all SAYINGS");
        for (int tongue = 0; tongue < 8; tongue++) {
            TaughtTongues x = Given.with("111:9;000:8", 5, 2, LAZY);
            for (int meaning = 0; meaning < 3; meaning++) {
                x.hear(meaning, tongue >> meaning & 1);
            }
            DUE.is("all three of " + tongue, tongue, x.takes());
        }
        TaughtTongues y = Given.with("111:9", 5, 2, LAZY);
        Given.hearAll(y, 1, 1);
        DUE.is("the least, though 7 is likelier", 2, y.takes());
        DUE.is("BEST takes 7", 7, taken(y, BEST));
    }

    private static void lazyAsBest() {
        DUE.sentence("13 if there is none as BEST does");
        TaughtTongues x = Given.with("110:9;001:9", 1, 2, LAZY);
        Given.hearAll(x, 0, 0, 0, 1);
        DUE.is("of several the least, not that of the fewest 1", 3, x.takes());
        DUE.is("MIND takes the other", 4, taken(x, MIND));
        Given.hearAll(x, 0, 0);
        DUE.is("the greatest LIKENESS", 4, taken(x, LAZY));
        Given.hearAll(x, 0, 1, 0, 1, 2, 0);
        DUE.is("of six", 3, taken(x, LAZY));
    }

    private static void mindOfSeveral() {
        DUE.sentence("13 2 MIND as BEST, but of several that which is nearest to TONGUE 0 by FORMS (fewest 1), then the least");
        DUE.is("the greatest LIKENESS goes ahead", 7, Given.with("111:9;000:8", 1, 2, MIND).takes());
        DUE.is("4 ahead of 3", 4, Given.with("110:9;001:9", 1, 2, MIND).takes());
        DUE.is("1 ahead of 2 and 4", 1, Given.with("100:9;010:9;001:9", 1, 2, MIND).takes());
        DUE.is("2 ahead of 4", 2, Given.with("010:9;001:9;11*:9", 1, 2, MIND).takes());
        DUE.is("5 ahead of 6 and 7", 5, Given.with("101:9;*11:9", 1, 2, MIND).takes());
        DUE.is("3 ahead of 5 and 6", 3, Given.with("110:9;101:9;011:9", 1, 2, MIND).takes());
        DUE.is("0 ahead of all", 0, Given.with("***:9", 1, 2, MIND).takes());
        TaughtTongues x = Given.with("110:9;001:9", 4, 2, MIND);
        Given.hearAll(x, 0, 1, 2, 1);
        DUE.is("of several of the greatest by what is heard", 4, x.takes());
    }

    private static void noneIsLikely() {
        DUE.sentence("13 of several: all eight, if no LIKENESS is above 0");
        TaughtTongues x = Given.with("111:9", 0, 2, BEST);
        Given.hearAll(x, 1, 0, 1, 1);
        DUE.is("BEST", 0, taken(x, BEST));
        DUE.is("LAZY", 0, taken(x, LAZY));
        DUE.is("MIND", 0, taken(x, MIND));
        TaughtTongues y = Given.with("111:9", 0, 2, BEST);
        Given.hearAll(y, 0, 0);
        DUE.is("SLIP 0: a TONGUE of LIKENESS 0 is not taken", 0, y.takes());
    }

    private static void takesGoesByNow() {
        DUE.sentence("13 What the LEARNER takes by HEARD, by the SLIP and text of now");
        TaughtTongues x = Given.with("111:9", 1, 2, BEST);
        Given.hearAll(x, 0, 0);
        DUE.is("SLIP 1: 11 of 0, 9 of 7", 0, x.takes());
        x.set(0, 2);
        DUE.is("SLIP 2: 10 of 0, 18 of 7", 7, x.takes());
        Given.sayAll(x, "011:9");
        x.before();
        DUE.is("another text", 6, x.takes());
    }
}
