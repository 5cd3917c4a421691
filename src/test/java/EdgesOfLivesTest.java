/** Section 4 of the document and promises 19 to 24: each sentence that names a bound, by itself. */
public final class EdgesOfLivesTest {
    private static final Due DUE = new Due();
    private static final int MIN = Integer.MIN_VALUE;
    private static final int MAX = Integer.MAX_VALUE;
    private static final int UNKNOWN = -1, OUTSIDE = -2, STATE = -3, NONE = -6;
    private static final long LOST = -1000000000000000000L;
    private static final int BEST = 0, LAZY = 1, MIND = 2;
    /** Numbers of lives that are none, some of which wrap around to 0 or 4 when they are multiplied by HEARS. */
    private static final int[] NO_LIVES = {0, 5, -1, 6, 8, 1 << 29, 1 << 30, (1 << 30) + 1, (1 << 31) + 1, MIN, MAX};
    private static final int[] MOST_LIVES_BY_HEARS = {0, 4, 4, 2, 2};
    private static final int[] NO_TONGUES = {-1, 8, MIN, MAX};
    private static final int[] NO_MEANINGS = {-1, 3, MIN, MAX};
    private static final int[] NEITHER_OF_TWO = {-1, 2, MIN, MAX};

    public static void main(String[] args) {
        livesOfBothForms();
        livesOfEachMeaning();
        livesOneToFour();
        livesOutside();
        livesEightSayings();
        livesRefusalsAtOnce();
        oftenJustSo();
        oftenOfNothing();
        oftenOfAll();
        oftenOfNoWeight();
        oftenLeast();
        oftenChangesNothing();
        oftenRefused();
        chosenOneAtLeast();
        chosenFourAtMost();
        chosenFewest();
        chosenFirstByMeanings();
        chosenNeverLess();
        chosenByLearner();
        chosenPlaces();
        chosenPlaysAlone();
        chosenGoesByNow();
        chosenRefused();
        backAlike();
        backNone();
        backLives();
        backRefused();
        backRefusalsAtOnce();
        guessMost();
        guessLeast();
        guessNone();
        deafAllEight();
        deafOneOther();
        guessRefused();
        guessRefusalsAtOnce();
        toldEach();
        toldRefused();
        DUE.end();
    }

    // ---- promise 19

    private static void livesOfBothForms() {
        DUE.sentence("19 the odds that after k lives it is spoken so: FORM (0, 1)");
        TaughtTongues x = Given.with(0, 1, 0);
        DUE.fraction("lives(0, 0, 0, 1), sure", 1, 1, x.lives(0, 0, 0, 1, 0), x.lives(0, 0, 0, 1, 1));
        DUE.fraction("lives(0, 0, 1, 1), nothing", 0, 1, x.lives(0, 0, 1, 1, 0), x.lives(0, 0, 1, 1, 1));
        DUE.fraction("lives(7, 0, 1, 1)", 1, 3, x.lives(7, 0, 1, 1, 0), x.lives(7, 0, 1, 1, 1));
        DUE.fraction("lives(7, 0, 0, 1)", 2, 3, x.lives(7, 0, 0, 1, 0), x.lives(7, 0, 0, 1, 1));
    }

    private static void livesOfEachMeaning() {
        DUE.sentence("19 LIVES of a FORM of a MEANING: MEANINGS 0 to 2");
        TaughtTongues x = Given.with(0, 1, 0);
        Given.weights(x, 1, 3, 4);
        DUE.fraction("lives(7, 0, 1, 1)", 1, 8, x.lives(7, 0, 1, 1, 0), x.lives(7, 0, 1, 1, 1));
        DUE.fraction("lives(7, 1, 1, 1)", 3, 8, x.lives(7, 1, 1, 1, 0), x.lives(7, 1, 1, 1, 1));
        DUE.fraction("lives(7, 2, 1, 1)", 1, 2, x.lives(7, 2, 1, 1, 0), x.lives(7, 2, 1, 1, 1));
    }

    private static void livesOneToFour() {
        DUE.sentence("19 from a TONGUE, after k lives (1 to 4)");
        // 7 comes to 1, which stays by 1/3 each life
        TaughtTongues x = Given.with(0, 1, 0);
        DUE.fraction("k 1", 1, 3, x.lives(7, 0, 1, 1, 0), x.lives(7, 0, 1, 1, 1));
        DUE.fraction("k 2", 1, 9, x.lives(7, 0, 1, 2, 0), x.lives(7, 0, 1, 2, 1));
        DUE.fraction("k 3", 1, 27, x.lives(7, 0, 1, 3, 0), x.lives(7, 0, 1, 3, 1));
        DUE.fraction("k 4", 1, 81, x.lives(7, 0, 1, 4, 0), x.lives(7, 0, 1, 4, 1));
        DUE.fraction("k 4, the other FORM", 80, 81, x.lives(7, 0, 0, 4, 0), x.lives(7, 0, 0, 4, 1));
    }

    private static void livesOutside() {
        DUE.sentence("19 UNKNOWN: MEANING, TONGUE; OUTSIDE: FORM, k, part");
        TaughtTongues x = new TaughtTongues();
        for (int tongue : NO_TONGUES) {
            DUE.is("tongue " + tongue, LOST - 1, x.lives(tongue, 0, 0, 1, 0));
        }
        for (int meaning : NO_MEANINGS) {
            DUE.is("meaning " + meaning, LOST - 1, x.lives(0, meaning, 0, 1, 0));
        }
        for (int wrong : NEITHER_OF_TWO) {
            DUE.is("form " + wrong, LOST - 2, x.lives(0, 0, wrong, 1, 0));
            DUE.is("part " + wrong, LOST - 2, x.lives(0, 0, 0, 1, wrong));
        }
        for (int hears = 1; hears <= 4; hears++) {
            x.set(1, hears);
            for (int k : NO_LIVES) {
                DUE.is("k " + k + " by HEARS " + hears, LOST - 2, x.lives(0, 0, 0, k, 0));
            }
        }
    }

    private static void livesEightSayings() {
        DUE.sentence("19 STATE: HEARS times k is above 8, likewise");
        for (int hears = 1; hears <= 4; hears++) {
            TaughtTongues x = Given.with(1, hears, 0);
            for (int k = 1; k <= 4; k++) {
                long answer = x.lives(7, 0, 1, k, 1);
                boolean refused = k > MOST_LIVES_BY_HEARS[hears];
                DUE.holds("HEARS " + hears + ", k " + k + " answers " + answer, refused ? answer == LOST - 3 : answer > 0);
            }
        }
    }

    private static void livesRefusalsAtOnce() {
        DUE.sentence("19 UNKNOWN; OUTSIDE; STATE, the first of these that fits");
        TaughtTongues x = Given.with(1, 3, 0);
        for (int[] known : new int[][] {{8, 0}, {0, 3}, {-1, 0}, {0, -1}, {8, 3}}) {
            DUE.is("and FORM", LOST - 1, x.lives(known[0], known[1], 2, 1, 0));
            DUE.is("and k", LOST - 1, x.lives(known[0], known[1], 0, 0, 0));
            DUE.is("and part", LOST - 1, x.lives(known[0], known[1], 0, 1, 2));
            DUE.is("and STATE", LOST - 1, x.lives(known[0], known[1], 0, 3, 0));
            DUE.is("and all", LOST - 1, x.lives(known[0], known[1], 2, 5, 2));
        }
        DUE.is("FORM and STATE", LOST - 2, x.lives(0, 0, 2, 3, 0));
        DUE.is("FORM -1 and STATE", LOST - 2, x.lives(0, 0, -1, 4, 0));
        DUE.is("part and STATE", LOST - 2, x.lives(0, 0, 0, 3, 2));
        DUE.is("FORM, k and part", LOST - 2, x.lives(0, 0, 2, 5, 2));
        DUE.is("STATE alone", LOST - 3, x.lives(0, 0, 0, 3, 0));
    }

    // ---- promise 20

    private static void oftenJustSo() {
        DUE.sentence("20 the least WEIGHT by which the odds are h twelfths or more");
        // the FORM 1 of 7 is kept by w of w + 2: 4, 6, 7.2 and 8 twelfths
        TaughtTongues x = Given.with(0, 1, 0);
        int[] want = {1, 1, 1, 1, 1, 2, 2, 3, 4, NONE, NONE, NONE, NONE};
        for (int meaning = 0; meaning < 3; meaning++) {
            for (int h = 0; h <= 12; h++) {
                DUE.is("often(7, " + meaning + ", " + h + ")", want[h], x.often(7, meaning, h));
            }
        }
    }

    private static void oftenOfNothing() {
        DUE.sentence("20 h twelfths (0 ..): nothing is enough");
        // all come to 6, whoever they hear
        TaughtTongues x = Given.with("011:9", 4, 1, 0);
        DUE.fraction("the odds are 0", 0, 1, x.lives(1, 0, 1, 1, 0), x.lives(1, 0, 1, 1, 1));
        DUE.is("often(1, 0, 0)", 1, x.often(1, 0, 0));
        DUE.is("often(1, 0, 1)", NONE, x.often(1, 0, 1));
    }

    private static void oftenOfAll() {
        DUE.sentence("20 h twelfths (.. to 12): all odds are wanted");
        TaughtTongues x = Given.with(0, 1, 0);
        DUE.is("0 is kept", 1, x.often(0, 0, 12));
        DUE.is("often(0, 2, 12)", 1, x.often(0, 2, 12));
        x.set(0, 1);
        // the FORM 0 is lost by w of 12 * (w + 2): the less, the less often it is said
        DUE.is("35 of 36 is eleven twelfths", 1, x.often(0, 0, 11));
        DUE.is("35 of 36 is not twelve", NONE, x.often(0, 0, 12));
        TaughtTongues y = Given.with("011:9", 4, 1, 0);
        DUE.is("with slips, where all come to 6", 1, y.often(6, 0, 12));
        DUE.is("where all come to 6, of its FORMS in 7", 1, y.often(7, 1, 12));
        DUE.is("where all come to 6, of the other FORM in 7", NONE, y.often(7, 0, 12));
    }

    private static void oftenOfNoWeight() {
        DUE.sentence("20 NONE: no WEIGHT does (1 to 4)");
        TaughtTongues x = Given.with(0, 1, 0);
        Given.weights(x, 1, 4, 4);
        // w of w + 8: 1.33, 2.4, 3.27, 4 twelfths
        DUE.is("WEIGHT 4 just does", 4, x.often(7, 0, 4));
        DUE.is("WEIGHT 5 would be wanted", NONE, x.often(7, 0, 5));
    }

    private static void oftenLeast() {
        DUE.sentence("20 the least WEIGHT (1 to 4), whatever it is now");
        TaughtTongues x = Given.with(0, 1, 0);
        for (int now = 1; now <= 4; now++) {
            x.weight(0, now);
            DUE.is("often(7, 0, 4) with WEIGHT " + now, 1, x.often(7, 0, 4));
            DUE.is("often(7, 0, 6) with WEIGHT " + now, 2, x.often(7, 0, 6));
            DUE.is("often(7, 0, 8) with WEIGHT " + now, 4, x.often(7, 0, 8));
        }
    }

    private static void oftenChangesNothing() {
        DUE.sentence("20 OFTEN is told alone: WEIGHTS stay");
        TaughtTongues x = Given.with(0, 1, 0);
        Given.weights(x, 2, 3, 1);
        DUE.fraction("after(7, 1, 1) ahead", 1, 3, x.after(7, 1, 1, 0), x.after(7, 1, 1, 1));
        x.often(7, 0, 12);
        x.often(7, 1, 0);
        x.often(7, 2, 5);
        DUE.is("told(10)", 2, x.told(10));
        DUE.is("told(11)", 3, x.told(11));
        DUE.is("told(12)", 1, x.told(12));
        DUE.fraction("after(7, 1, 1)", 1, 3, x.after(7, 1, 1, 0), x.after(7, 1, 1, 1));
        DUE.fraction("step(7, 2)", 1, 2, x.step(7, 2, 0), x.step(7, 2, 1));
        DUE.fraction("step(7, 4)", 1, 6, x.step(7, 4, 0), x.step(7, 4, 1));
    }

    private static void oftenRefused() {
        DUE.sentence("20 UNKNOWN; OUTSIDE");
        TaughtTongues x = Given.with(1, 4, 0);
        for (int tongue : NO_TONGUES) {
            DUE.is("tongue " + tongue, UNKNOWN, x.often(tongue, 0, 0));
            DUE.is("UNKNOWN ahead of OUTSIDE", UNKNOWN, x.often(tongue, 0, 13));
        }
        for (int meaning : NO_MEANINGS) {
            DUE.is("meaning " + meaning, UNKNOWN, x.often(0, meaning, 0));
            DUE.is("UNKNOWN ahead of OUTSIDE", UNKNOWN, x.often(0, meaning, -1));
        }
        for (int h : new int[] {-1, 13, MIN, MAX}) {
            DUE.is("h " + h, OUTSIDE, x.often(0, 0, h));
            DUE.is("h " + h, OUTSIDE, x.often(7, 2, h));
        }
        DUE.is("h 0", 1, x.often(7, 2, 0));
        DUE.is("h 12", NONE, x.often(7, 2, 12));
    }

    // ---- promise 21

    private static void chosenAre(TaughtTongues x, int tongue, int... meanings) {
        DUE.is("chosen(" + tongue + ", -1)", meanings.length, x.chosen(tongue, -1));
        for (int i = 0; i < meanings.length; i++) {
            DUE.is("chosen(" + tongue + ", " + i + ")", meanings[i], x.chosen(tongue, i));
        }
        DUE.is("chosen(" + tongue + ", " + meanings.length + ")", NONE, x.chosen(tongue, meanings.length));
    }

    private static void chosenOneAtLeast() {
        DUE.sentence("21 the fewest SAYINGS (1 ..)");
        TaughtTongues x = new TaughtTongues();
        DUE.is("0 is taken behind none", 0, x.takes());
        chosenAre(x, 0, 0);
        TaughtTongues y = Given.with("111:9", 1, 2, BEST);
        DUE.is("7 is taken behind none", 7, y.takes());
        chosenAre(y, 7, 0);
    }

    private static void chosenFourAtMost() {
        DUE.sentence("21 the fewest SAYINGS (.. to 4); NONE: no four do");
        // each saying of meaning 1 or 2 outweighs 6 by 7/5: four by 3.84, five by 5.38
        chosenAre(Given.with("011:3", 5, 2, BEST), 0, 1, 1, 1, 1);
        TaughtTongues x = Given.with("011:4", 5, 2, BEST);
        DUE.is("five would do: chosen(0, -1)", NONE, x.chosen(0, -1));
        for (int i = 0; i <= 5; i++) {
            DUE.is("five would do: chosen(0, " + i + ")", NONE, x.chosen(0, i));
        }
        TaughtTongues y = Given.with("***:9;111:1", 0, 2, BEST);
        DUE.is("it is the only one that has them, so three do", 3, y.chosen(7, -1));
    }

    private static void chosenFewest() {
        DUE.sentence("21 the fewest SAYINGS, each in the FORM that a TONGUE has, behind which a LEARNER takes just that TONGUE");
        TaughtTongues x = new TaughtTongues();
        chosenAre(x, 1, 0);
        chosenAre(x, 2, 1);
        chosenAre(x, 3, 0, 1);
        chosenAre(x, 4, 2);
        chosenAre(x, 5, 0, 2);
        chosenAre(x, 6, 1, 2);
        chosenAre(x, 7, 0, 1, 2);
        // one saying is not enough (3 times 8 against 9 times 4), two are (3 times 64 against 9 times 16)
        chosenAre(Given.with("111:3;000:9", 4, 2, BEST), 7, 0, 0);
    }

    private static void chosenFirstByMeanings() {
        DUE.sentence("21 of several rows the first by MEANINGS, one behind another");
        chosenAre(Given.with("111:9", 1, 2, BEST), 7, 0);
        chosenAre(Given.with("111:9", 1, 2, BEST), 6, 0, 1, 2);
        // each two, of one MEANING or of two, would do
        chosenAre(Given.with("111:3;000:9", 4, 2, BEST), 7, 0, 0);
        // two sayings in which 0 and 6 differ do: of meaning 0 they have the same FORM, so 1 is the first
        chosenAre(Given.with("011:3", 4, 2, BEST), 0, 1, 1);
        chosenAre(Given.with("101:3", 4, 2, BEST), 0, 0, 0);
    }

    private static void chosenNeverLess() {
        DUE.sentence("21 (never less than the one ahead)");
        for (int state = 0; state < 6 * 3; state++) {
            TaughtTongues x = Given.with("011:5;1*1:3;000:2", state % 6, 2, state / 6);
            for (int tongue = 0; tongue < 8; tongue++) {
                for (int i = 1; i < x.chosen(tongue, -1); i++) {
                    DUE.holds("state " + state + ", tongue " + tongue, x.chosen(tongue, i) >= x.chosen(tongue, i - 1));
                }
            }
        }
    }

    private static void chosenByLearner() {
        DUE.sentence("21 behind which a LEARNER takes just that TONGUE: each LEARNER");
        // (0, 0) and (1, 0) would bring one to 4, (2, 0) alone to 3
        TaughtTongues x = Given.with("110:9;001:9", 1, 2, BEST);
        chosenAre(x, 0, 0, 2);
        chosenAre(x, 3, 0);
        x.set(2, LAZY);
        chosenAre(x, 0, 0);
        chosenAre(x, 3, 0, 1);
        chosenAre(x, 4, 2);
        chosenAre(x, 7, 0, 1, 2);
        // behind one saying of 4, 3 and 4 have the same: twice 8 and four times 4
        TaughtTongues y = Given.with("110:4;001:2", 4, 2, BEST);
        chosenAre(y, 4, 0, 0);
        y.set(2, MIND);
        chosenAre(y, 4, 0);
    }

    private static void chosenPlaces() {
        DUE.sentence("21 how many (i = -1), the i-th MEANING; NONE");
        TaughtTongues x = new TaughtTongues();
        int[] want = {3, 0, 1, 2};
        for (int i = -1; i <= 2; i++) {
            DUE.is("chosen(7, " + i + ")", want[i + 1], x.chosen(7, i));
        }
        for (int i : new int[] {3, 4, 5, -2, MIN, MAX}) {
            DUE.is("chosen(7, " + i + ")", NONE, x.chosen(7, i));
        }
        DUE.is("chosen(0, 1), past one", NONE, x.chosen(0, 1));
        TaughtTongues four = Given.with("011:3", 5, 2, BEST);
        DUE.is("chosen(0, 3), the last of four", 1, four.chosen(0, 3));
        DUE.is("chosen(0, 4), past four", NONE, four.chosen(0, 4));
    }

    private static void chosenPlaysAlone() {
        DUE.sentence("21 CHOSEN goes neither by HEARS nor by HEARD nor by WEIGHTS");
        TaughtTongues x = Given.with(1, 1, BEST);
        Given.weights(x, 4, 1, 2);
        Given.hearAll(x, 0, 0, 0, 0, 0, 0, 0, 0, 0, 0, 0, 0);
        chosenAre(x, 7, 0, 1, 2);
        DUE.is("HEARD stays", 6, x.told(4));
        DUE.is("takes() stays", 0, x.takes());
    }

    private static void chosenGoesByNow() {
        DUE.sentence("21 behind which a LEARNER takes just that TONGUE, by SLIP, text and LEARNER as they are now");
        TaughtTongues x = Given.with("011:3", 5, 2, BEST);
        chosenAre(x, 0, 1, 1, 1, 1);
        x.set(0, 4);
        chosenAre(x, 0, 1, 1);
        x.set(0, 1);
        chosenAre(x, 0, 1);
        Given.sayAll(x, "101:3");
        x.before();
        chosenAre(x, 0, 0);
        chosenAre(x, 5, 0);
        x.set(2, LAZY);
        chosenAre(x, 5, 0, 2);
    }

    private static void chosenRefused() {
        DUE.sentence("21 UNKNOWN");
        TaughtTongues x = new TaughtTongues();
        for (int tongue : NO_TONGUES) {
            for (int i : new int[] {-1, 0, 4, -2, MIN, MAX}) {
                DUE.is("chosen(" + tongue + ", " + i + ")", UNKNOWN, x.chosen(tongue, i));
            }
        }
    }

    // ---- promise 22

    private static void backAlike() {
        DUE.sentence("22 the odds that k lives ago it was another one, if all were as likely then");
        // to 0 come 0 by 1; 1, 2 and 4 by 2/3; 3, 5 and 6 by 1/3; 7 by nothing
        TaughtTongues x = Given.with(0, 1, 0);
        int[][] want = {{1, 4}, {1, 6}, {1, 6}, {1, 12}, {1, 6}, {1, 12}, {1, 12}, {0, 1}};
        for (int was = 0; was < 8; was++) {
            DUE.fraction("back(0, 1, " + was + ")", want[was][0], want[was][1], x.back(0, 1, was, 0), x.back(0, 1, was, 1));
        }
        TaughtTongues y = Given.with(0, 3, 0);
        DUE.fraction("7 alone comes to 7: sure", 1, 1, y.back(7, 1, 7, 0), y.back(7, 1, 7, 1));
        DUE.fraction("so none other was", 0, 1, y.back(7, 1, 3, 0), y.back(7, 1, 3, 1));
        TaughtTongues z = Given.with("011:9", 4, 1, 0);
        DUE.fraction("all come to 6", 1, 8, z.back(6, 4, 0, 0), z.back(6, 4, 0, 1));
    }

    private static void backNone() {
        DUE.sentence("22 (0 by 1, if none can be)");
        TaughtTongues x = Given.with(0, 1, 0);
        for (int was = 0; was < 8; was++) {
            DUE.fraction("back(7, 1, " + was + ")", 0, 1, x.back(7, 1, was, 0), x.back(7, 1, was, 1));
            DUE.fraction("back(3, 4, " + was + ")", 0, 1, x.back(3, 4, was, 0), x.back(3, 4, was, 1));
        }
    }

    private static void backLives() {
        DUE.sentence("22 k lives ago (1 to 4): AFTER's odds from that one, by all such together");
        // behind the first life 1 stays by 1/3 each: from 1, 3, 5, 7 it is the same
        TaughtTongues x = Given.with(0, 1, 0);
        for (int k = 1; k <= 4; k++) {
            DUE.fraction("back(1, " + k + ", 7)", 1, 4, x.back(1, k, 7, 0), x.back(1, k, 7, 1));
            DUE.fraction("back(1, " + k + ", 0)", 0, 1, x.back(1, k, 0, 0), x.back(1, k, 0, 1));
        }
        // 0 by 1; 1, 2 and 4 by 8/9; 3, 5 and 6 by 7/9; 7 by 6/9: together 60/9
        DUE.fraction("back(0, 2, 0)", 3, 20, x.back(0, 2, 0, 0), x.back(0, 2, 0, 1));
        DUE.fraction("back(0, 2, 7)", 1, 10, x.back(0, 2, 7, 0), x.back(0, 2, 7, 1));
        for (int hears = 1; hears <= 4; hears++) {
            TaughtTongues y = Given.with(1, hears, 0);
            for (int k = 1; k <= 4; k++) {
                long answer = y.back(0, k, 0, 0);
                boolean refused = k > MOST_LIVES_BY_HEARS[hears];
                DUE.holds("HEARS " + hears + ", k " + k + " answers " + answer, refused ? answer == LOST - 3 : answer > 0);
            }
        }
    }

    private static void backRefused() {
        DUE.sentence("22 UNKNOWN, OUTSIDE, STATE, likewise");
        TaughtTongues x = new TaughtTongues();
        for (int tongue : NO_TONGUES) {
            DUE.is("tongue " + tongue, LOST - 1, x.back(tongue, 1, 0, 0));
            DUE.is("was " + tongue, LOST - 1, x.back(0, 1, tongue, 0));
        }
        for (int part : NEITHER_OF_TWO) {
            DUE.is("part " + part, LOST - 2, x.back(0, 1, 0, part));
            DUE.is("part " + part + ", where none can be", LOST - 2, x.back(7, 1, 0, part));
        }
        for (int hears = 1; hears <= 4; hears++) {
            x.set(1, hears);
            for (int k : NO_LIVES) {
                DUE.is("k " + k + " by HEARS " + hears, LOST - 2, x.back(0, k, 0, 0));
            }
        }
    }

    private static void backRefusalsAtOnce() {
        DUE.sentence("22 UNKNOWN, OUTSIDE, STATE, the first of these that fits");
        TaughtTongues x = Given.with(1, 4, 0);
        for (int tongue : NO_TONGUES) {
            DUE.is("tongue and k", LOST - 1, x.back(tongue, 5, 0, 0));
            DUE.is("was and k", LOST - 1, x.back(0, 0, tongue, 0));
            DUE.is("tongue and part", LOST - 1, x.back(tongue, 1, 0, 2));
            DUE.is("was and STATE", LOST - 1, x.back(0, 3, tongue, 0));
            DUE.is("tongue and STATE", LOST - 1, x.back(tongue, 4, 0, 0));
            DUE.is("all", LOST - 1, x.back(tongue, 3, tongue, 2));
        }
        DUE.is("part and STATE", LOST - 2, x.back(0, 3, 0, 2));
        DUE.is("part -1 and STATE", LOST - 2, x.back(0, 4, 0, -1));
        DUE.is("k and part", LOST - 2, x.back(0, 0, 0, 2));
        DUE.is("STATE alone", LOST - 3, x.back(0, 3, 0, 0));
    }

    // ---- promise 23

    private static void guessMost() {
        DUE.sentence("23 GUESS: the one with the most");
        TaughtTongues x = Given.with(0, 1, 0);
        DUE.is("guess(0, 1)", 0, x.guess(0, 1, 0));
        TaughtTongues y = Given.with(0, 3, 0);
        for (int tongue = 0; tongue < 8; tongue++) {
            DUE.is("guess(" + tongue + ", 1), each is best kept", tongue, y.guess(tongue, 1, 0));
        }
        // behind each FORM 1 all come to 7, which alone has three of them
        TaughtTongues z = Given.with("000:9;111:9", 0, 1, 0);
        DUE.is("guess(7, 1), the last of eight", 7, z.guess(7, 1, 0));
    }

    private static void guessLeast() {
        DUE.sentence("23 the least such");
        TaughtTongues x = Given.with(0, 1, 0);
        DUE.is("1, 3, 5 and 7 come to 1 by 1/3", 1, x.guess(1, 1, 0));
        DUE.is("2, 3, 6 and 7 come to 2 by 1/3", 2, x.guess(2, 1, 0));
        DUE.is("4, 5, 6 and 7 come to 4, by four lives", 4, x.guess(4, 4, 0));
        TaughtTongues y = Given.with("011:9", 4, 1, 0);
        DUE.is("all come to 6", 0, y.guess(6, 1, 0));
    }

    private static void guessNone() {
        DUE.sentence("23 NONE: none can be");
        TaughtTongues x = Given.with(0, 1, 0);
        for (int tongue : new int[] {3, 5, 6, 7}) {
            for (int k = 1; k <= 4; k++) {
                DUE.is("guess(" + tongue + ", " + k + ", 0)", NONE, x.guess(tongue, k, 0));
            }
        }
        TaughtTongues y = Given.with("011:9", 4, 1, 0);
        DUE.is("none comes to 0", NONE, y.guess(0, 1, 0));
    }

    private static void deafAllEight() {
        DUE.sentence("23 DEAF: all eight have the same (1; 1, 0)");
        TaughtTongues x = Given.with("011:9", 4, 1, 0);
        for (int k = 1; k <= 4; k++) {
            DUE.is("all come to 6", 1, x.guess(6, k, 1));
            DUE.is("all eight have nothing", 1, x.guess(0, k, 1));
        }
        TaughtTongues y = Given.with(0, 1, 0);
        DUE.is("none can be: all eight have 0 by 1", 1, y.guess(7, 1, 1));
        DUE.is("not the same", 0, y.guess(0, 1, 1));
        DUE.is("some have the same, some nothing", 0, y.guess(1, 1, 1));
    }

    private static void deafOneOther() {
        DUE.sentence("23 DEAF: all eight, not seven");
        TaughtTongues x = Given.with(0, 3, 0);
        DUE.is("7 alone comes to 7", 0, x.guess(7, 1, 1));
        TaughtTongues y = Given.with("000:2;***:4", 0, 4, 0);
        DUE.fraction("0 alone comes to 0", 1, 1, y.back(0, 1, 0, 0), y.back(0, 1, 0, 1));
        DUE.is("0 alone comes to 0", 0, y.guess(0, 1, 1));
        DUE.is("0 alone comes to 0", 0, y.guess(0, 1, 0));
        for (int tongue = 1; tongue < 7; tongue++) {
            TaughtTongues z = Given.with(alone(tongue), 0, 4, 0);
            DUE.fraction(tongue + " alone comes to it", 1, 1, z.back(tongue, 1, tongue, 0), z.back(tongue, 1, tongue, 1));
            DUE.is(tongue + " alone comes to it", 0, z.guess(tongue, 1, 1));
        }
    }

    /** A tongue that is thought of less than all others is taken behind all three of its sayings alone. */
    private static String alone(int tongue) {
        return "" + (tongue & 1) + (tongue >> 1 & 1) + (tongue >> 2 & 1) + ":1;***:4";
    }

    private static void guessRefused() {
        DUE.sentence("23 UNKNOWN; OUTSIDE: k, what; STATE, likewise");
        for (int hears = 1; hears <= 4; hears++) {
            TaughtTongues x = Given.with(1, hears, 0);
            for (int k : NO_LIVES) {
                DUE.is("k " + k + " by HEARS " + hears, OUTSIDE, x.guess(0, k, 0));
            }
            for (int k = 1; k <= 4; k++) {
                boolean refused = k > MOST_LIVES_BY_HEARS[hears];
                DUE.is("guess(0, " + k + ", 0) by HEARS " + hears, refused ? STATE : 0, x.guess(0, k, 0));
                DUE.is("guess(0, " + k + ", 1) by HEARS " + hears, refused ? STATE : 0, x.guess(0, k, 1));
            }
        }
        TaughtTongues y = new TaughtTongues();
        for (int tongue : NO_TONGUES) {
            DUE.is("tongue " + tongue, UNKNOWN, y.guess(tongue, 1, 0));
            DUE.is("tongue " + tongue, UNKNOWN, y.guess(tongue, 1, 1));
        }
        for (int what : NEITHER_OF_TWO) {
            DUE.is("what " + what, OUTSIDE, y.guess(0, 1, what));
        }
    }

    private static void guessRefusalsAtOnce() {
        DUE.sentence("23 UNKNOWN; OUTSIDE; STATE, the first of these that fits");
        TaughtTongues x = Given.with(1, 3, 0);
        for (int tongue : NO_TONGUES) {
            DUE.is("tongue and k", UNKNOWN, x.guess(tongue, 0, 0));
            DUE.is("tongue and what", UNKNOWN, x.guess(tongue, 1, 2));
            DUE.is("tongue and STATE", UNKNOWN, x.guess(tongue, 3, 0));
            DUE.is("all", UNKNOWN, x.guess(tongue, 4, -1));
        }
        DUE.is("what and STATE", OUTSIDE, x.guess(0, 3, 2));
        DUE.is("what -1 and STATE", OUTSIDE, x.guess(0, 4, -1));
        DUE.is("k and what", OUTSIDE, x.guess(0, 5, 2));
        DUE.is("k 5, which would be 15 sayings", OUTSIDE, x.guess(0, 5, 0));
        DUE.is("STATE alone", STATE, x.guess(0, 3, 1));
    }

    // ---- promise 24

    private static void toldEach() {
        DUE.sentence("24 0 SLIP, 1 HEARS, 2 LEARNER, 3 signs, 4 HEARD SAYINGS, 10 to 12 WEIGHTS");
        TaughtTongues x = Given.with(5, 3, 2);
        Given.sayAll(x, "0123456");
        Given.hearAll(x, 0, 0, 1, 1, 2, 0, 0, 0, 1, 1, 2, 0);
        Given.weights(x, 4, 3, 2);
        int[][] want = {{0, 5}, {1, 3}, {2, 2}, {3, 7}, {4, 6}, {10, 4}, {11, 3}, {12, 2}};
        for (int[] pair : want) {
            DUE.is("told(" + pair[0] + ")", pair[1], x.told(pair[0]));
        }
        TaughtTongues least = Given.with(0, 1, 0);
        DUE.is("SLIP 0", 0, least.told(0));
        DUE.is("HEARS 1", 1, least.told(1));
        DUE.is("no signs", 0, least.told(3));
        DUE.is("no SAYINGS", 0, least.told(4));
    }

    private static void toldRefused() {
        DUE.sentence("24 OUTSIDE");
        TaughtTongues x = new TaughtTongues();
        for (int what : new int[] {-1, 5, 6, 7, 8, 9, 13, 14, 20, 256, MIN, MAX}) {
            DUE.is("told(" + what + ")", OUTSIDE, x.told(what));
        }
    }
}
