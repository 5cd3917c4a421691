/** Section 3 of the document and promises 14 to 18: each sentence that names a bound, by itself. */
public final class EdgesOfStepsTest {
    private static final Due DUE = new Due();
    private static final int MIN = Integer.MIN_VALUE;
    private static final int MAX = Integer.MAX_VALUE;
    private static final int UNKNOWN = -1, OUTSIDE = -2;
    private static final long LOST = -1000000000000000000L;
    /** Numbers of lives that are none, some of which wrap around to 0 or 4 when they are multiplied by HEARS. */
    private static final int[] NO_LIVES = {0, 5, -1, 6, 8, 1 << 29, 1 << 30, (1 << 30) + 1, (1 << 31) + 1, MIN, MAX};
    private static final int[] MOST_LIVES_BY_HEARS = {0, 4, 4, 2, 2};
    /** By SLIP 0, 5 comes to 1, to 0, to 2, to 6, each by one life more and by none less. */
    private static final String CHAIN = "0*1:4;01*:3;*1*:8";

    public static void main(String[] args) {
        hearsOneToFour();
        orTheSame();
        allStepsAreOne();
        stepNothing();
        stepLowestTerms();
        heardPlaysNoPart();
        stepRefused();
        bookNone();
        bookAll();
        bookSome();
        bookOfTheTeacher();
        bookSlips();
        bookRefused();
        bookRefusalsAtOnce();
        oneLifeIsAStep();
        fourLives();
        afterEachLife();
        livesOneToFour();
        eightSayings();
        afterRefusalsAtOnce();
        afterNothingAndAll();
        afterGoesByNow();
        leadsByNoLives();
        leadsByAnyNumber();
        leadsRefused();
        lasting();
        parts();
        kept();
        keptOfSlips();
        lastsRefused();
        DUE.end();
    }

    // ---- promise 14

    private static void hearsOneToFour() {
        DUE.sentence("14 A learner hears HEARS SAYINGS (1 to 4; 2 at first), one behind another");
        // without slips 7 is learnt of 7, 3 of 7 and 1 of 7 by rows of all three, of two, of one meaning
        TaughtTongues x = Given.with(0, 1, 0);
        stepsOfSeven(x, 0, 1, 0, 1, 1, 3);
        x.set(1, 2);
        stepsOfSeven(x, 0, 1, 2, 9, 1, 9);
        x.set(1, 3);
        stepsOfSeven(x, 2, 9, 2, 9, 1, 27);
        x.set(1, 4);
        stepsOfSeven(x, 4, 9, 14, 81, 1, 81);
        TaughtTongues y = Given.with(0, 2, 0);
        stepsOfSeven(y, 0, 1, 2, 9, 1, 9);
    }

    private static void stepsOfSeven(TaughtTongues x, int... parts) {
        String by = " by HEARS " + x.told(1);
        DUE.fraction("step(7, 7)" + by, parts[0], parts[1], x.step(7, 7, 0), x.step(7, 7, 1));
        DUE.fraction("step(7, 3)" + by, parts[2], parts[3], x.step(7, 3, 0), x.step(7, 3, 1));
        DUE.fraction("step(7, 1)" + by, parts[4], parts[5], x.step(7, 1, 0), x.step(7, 1, 1));
    }

    private static void orTheSame() {
        DUE.sentence("14 the odds that one who hears them of a TONGUE comes to another one (or the same)");
        TaughtTongues x = Given.with("000:9;111:9", 0, 1, 0);
        DUE.fraction("step(0, 0)", 1, 1, x.step(0, 0, 0), x.step(0, 0, 1));
        DUE.fraction("step(7, 7)", 1, 1, x.step(7, 7, 0), x.step(7, 7, 1));
        DUE.fraction("step(3, 7)", 2, 3, x.step(3, 7, 0), x.step(3, 7, 1));
        DUE.fraction("step(3, 0)", 1, 3, x.step(3, 0, 0), x.step(3, 0, 1));
        DUE.fraction("step(3, 3)", 0, 1, x.step(3, 3, 0), x.step(3, 3, 1));
    }

    private static void allStepsAreOne() {
        DUE.sentence("14 STEP, over all sayings that can be heard: all together 1");
        for (int state = 0; state < 4 * 3 * 6; state++) {
            TaughtTongues x = Given.with("1*0:4;**1:7", state % 6, state / 6 % 4 + 1, state / 24);
            Given.weights(x, 4, 1, 3);
            for (int from = 0; from < 8; from++) {
                long upper = 0;
                long whole = power(96, x.told(1));
                for (int to = 0; to < 8; to++) {
                    upper += x.step(from, to, 0) * (whole / x.step(from, to, 1));
                }
                DUE.is("from " + from + " in state " + state, whole, upper);
            }
        }
    }

    private static long power(long base, int times) {
        return times == 0 ? 1 : base * power(base, times - 1);
    }

    private static void stepNothing() {
        DUE.sentence("14 (0 by 1 for nothing)");
        TaughtTongues x = new TaughtTongues();
        DUE.fraction("no two sayings bring one to 7", 0, 1, x.step(7, 7, 0), x.step(7, 7, 1));
        TaughtTongues y = Given.with(0, 4, 0);
        DUE.fraction("without slips none leaves 0", 0, 1, y.step(0, 1, 0), y.step(0, 1, 1));
    }

    private static void stepLowestTerms() {
        DUE.sentence("14 0 the upper, 1 the lower number, in lowest terms");
        TaughtTongues x = Given.with(3, 1, 0);
        DUE.fraction("3 of 36", 1, 12, x.step(0, 1, 0), x.step(0, 1, 1));
        x.set(0, 4);
        DUE.fraction("4 of 36", 1, 9, x.step(0, 1, 0), x.step(0, 1, 1));
        x.set(0, 5);
        DUE.fraction("5 of 36", 5, 36, x.step(0, 1, 0), x.step(0, 1, 1));
        x.set(0, 0);
        DUE.fraction("36 of 36", 1, 1, x.step(0, 0, 0), x.step(0, 0, 1));
    }

    private static void heardPlaysNoPart() {
        DUE.sentence("14 A learner hears HEARS SAYINGS, and not those of HEARD");
        TaughtTongues x = Given.with(0, 3, 0);
        Given.hearAll(x, 0, 0, 0, 0, 0, 0, 0, 0, 0, 0, 0, 0);
        stepsOfSeven(x, 2, 9, 2, 9, 1, 27);
        DUE.fraction("book(7, 1, 7, 7)", 2, 9, x.book(7, 1, 7, 7, 0), x.book(7, 1, 7, 7, 1));
        DUE.fraction("after(7, 1, 7)", 2, 9, x.after(7, 1, 7, 0), x.after(7, 1, 7, 1));
        DUE.fraction("lives(7, 0, 1, 1)", 19, 27, x.lives(7, 0, 1, 1, 0), x.lives(7, 0, 1, 1, 1));
        DUE.fraction("back(7, 1, 7)", 1, 1, x.back(7, 1, 7, 0), x.back(7, 1, 7, 1));
        DUE.is("often(7, 0, 8)", 1, x.often(7, 0, 8));
        DUE.is("leads(7)", 255, x.leads(7));
        DUE.is("HEARD stays", 6, x.told(4));
    }

    private static void stepRefused() {
        DUE.sentence("14 UNKNOWN, OUTSIDE, likewise");
        TaughtTongues x = new TaughtTongues();
        for (int wrong : new int[] {-1, 8, MIN, MAX}) {
            DUE.is("step(" + wrong + ", 0, 0)", LOST - 1, x.step(wrong, 0, 0));
            DUE.is("step(0, " + wrong + ", 0)", LOST - 1, x.step(0, wrong, 0));
            DUE.is("UNKNOWN ahead of OUTSIDE", LOST - 1, x.step(wrong, 0, 2));
            DUE.is("UNKNOWN ahead of OUTSIDE", LOST - 1, x.step(0, wrong, -1));
        }
        for (int part : new int[] {-1, 2, MIN, MAX}) {
            DUE.is("step(0, 0, " + part + ")", LOST - 2, x.step(0, 0, part));
            DUE.is("step(7, 7, " + part + ")", LOST - 2, x.step(7, 7, part));
        }
    }

    // ---- promise 15

    private static void bookNone() {
        DUE.sentence("15 the first b of them (0 ..): none is the book's");
        for (int hears = 1; hears <= 4; hears++) {
            TaughtTongues x = Given.with("1*0:4;**1:7", 2, hears, 0);
            for (int to = 0; to < 8; to++) {
                DUE.fraction("book(6, 0, 1, " + to + ")", x.step(1, to, 0), x.step(1, to, 1), x.book(6, 0, 1, to, 0), x.book(6, 0, 1, to, 1));
            }
        }
    }

    private static void bookAll() {
        DUE.sentence("15 the first b of them (.. to HEARS): all are the book's");
        for (int hears = 1; hears <= 4; hears++) {
            TaughtTongues x = Given.with("1*0:4;**1:7", 2, hears, 0);
            for (int to = 0; to < 8; to++) {
                DUE.fraction("book(6, " + hears + ", 1, " + to + ")", x.step(6, to, 0), x.step(6, to, 1),
                    x.book(6, hears, 1, to, 0), x.book(6, hears, 1, to, 1));
            }
        }
    }

    private static void bookSome() {
        DUE.sentence("15 the first b of them are as if said by one who has the BOOK's TONGUE (also for two teachers)");
        TaughtTongues x = Given.with(0, 4, 0);
        // to 1 come those who hear the book say meaning 0, and the other not (by 2/3 for each saying)
        DUE.fraction("b 0", 0, 1, x.book(1, 0, 0, 1, 0), x.book(1, 0, 0, 1, 1));
        DUE.fraction("b 1: 1/3 * 8/27", 8, 81, x.book(1, 1, 0, 1, 0), x.book(1, 1, 0, 1, 1));
        DUE.fraction("b 2: 5/9 * 4/9", 20, 81, x.book(1, 2, 0, 1, 0), x.book(1, 2, 0, 1, 1));
        DUE.fraction("b 3: 19/27 * 2/3", 38, 81, x.book(1, 3, 0, 1, 0), x.book(1, 3, 0, 1, 1));
        DUE.fraction("b 4: 65/81", 65, 81, x.book(1, 4, 0, 1, 0), x.book(1, 4, 0, 1, 1));
    }

    private static void bookOfTheTeacher() {
        DUE.sentence("15 STEP WITH a BOOK that has the teacher's TONGUE");
        TaughtTongues x = Given.with("1*0:4;**1:7", 2, 3, 0);
        for (int b = 0; b <= 3; b++) {
            DUE.fraction("book(5, " + b + ", 5, 7)", x.step(5, 7, 0), x.step(5, 7, 1), x.book(5, b, 5, 7, 0), x.book(5, b, 5, 7, 1));
        }
    }

    private static void bookSlips() {
        DUE.sentence("15 as if said: with slips");
        TaughtTongues x = Given.with(5, 1, 0);
        DUE.fraction("book(0, 1, 7, 1)", 5, 36, x.book(0, 1, 7, 1, 0), x.book(0, 1, 7, 1, 1));
        DUE.fraction("book(7, 1, 0, 1)", 7, 36, x.book(7, 1, 0, 1, 0), x.book(7, 1, 0, 1, 1));
    }

    private static void bookRefused() {
        DUE.sentence("15 UNKNOWN, OUTSIDE: b 0 to HEARS, part");
        for (int hears = 1; hears <= 4; hears++) {
            TaughtTongues x = Given.with(1, hears, 0);
            DUE.holds("b 0 by HEARS " + hears, x.book(0, 0, 0, 0, 0) > 0);
            DUE.holds("b HEARS by HEARS " + hears, x.book(0, hears, 0, 0, 0) > 0);
            for (int b : new int[] {-1, hears + 1, 5, MIN, MAX}) {
                DUE.is("b " + b + " by HEARS " + hears, LOST - 2, x.book(0, b, 0, 0, 0));
            }
        }
        TaughtTongues y = Given.with(1, 4, 0);
        DUE.holds("b 4 of 4", y.book(0, 4, 0, 0, 0) > 0);
        y.set(1, 3);
        DUE.is("b 4 of no more than 3", LOST - 2, y.book(0, 4, 0, 0, 0));
        for (int part : new int[] {-1, 2, MIN, MAX}) {
            DUE.is("part " + part, LOST - 2, y.book(0, 0, 0, 0, part));
        }
        for (int wrong : new int[] {-1, 8, MIN, MAX}) {
            DUE.is("book " + wrong, LOST - 1, y.book(wrong, 1, 0, 0, 0));
            DUE.is("book " + wrong + ", though b is 0", LOST - 1, y.book(wrong, 0, 0, 0, 0));
            DUE.is("from " + wrong, LOST - 1, y.book(0, 1, wrong, 0, 0));
            DUE.is("from " + wrong + ", though b is HEARS", LOST - 1, y.book(0, 3, wrong, 0, 0));
            DUE.is("to " + wrong, LOST - 1, y.book(0, 1, 0, wrong, 0));
        }
    }

    private static void bookRefusalsAtOnce() {
        DUE.sentence("15 the first of these that fits: UNKNOWN, OUTSIDE");
        TaughtTongues x = new TaughtTongues();
        for (int[] tongues : new int[][] {{8, 0, 0}, {0, 8, 0}, {0, 0, 8}, {-1, 0, 0}, {0, -1, 0}, {0, 0, -1}}) {
            DUE.is("b -1", LOST - 1, x.book(tongues[0], -1, tongues[1], tongues[2], 0));
            DUE.is("b 3", LOST - 1, x.book(tongues[0], 3, tongues[1], tongues[2], 0));
            DUE.is("part 2", LOST - 1, x.book(tongues[0], 0, tongues[1], tongues[2], 2));
            DUE.is("b 3 and part -1", LOST - 1, x.book(tongues[0], 3, tongues[1], tongues[2], -1));
        }
        DUE.is("b 3 and part 2", LOST - 2, x.book(0, 3, 0, 0, 2));
    }

    // ---- promise 16

    private static void oneLifeIsAStep() {
        DUE.sentence("16 AFTER k lives (1 ..)");
        for (int hears = 1; hears <= 4; hears++) {
            TaughtTongues x = Given.with("1*0:4;**1:7", 2, hears, 0);
            for (int to = 0; to < 8; to++) {
                DUE.fraction("after(5, 1, " + to + ")", x.step(5, to, 0), x.step(5, to, 1), x.after(5, 1, to, 0), x.after(5, 1, to, 1));
            }
        }
    }

    private static void fourLives() {
        DUE.sentence("16 AFTER k lives (.. to 4): the odds of that, each hearing of the one ahead");
        // without slips 1 stays by 1/3 each life, and is never come to again behind 0
        TaughtTongues x = Given.with(0, 1, 0);
        DUE.fraction("after(1, 1, 1)", 1, 3, x.after(1, 1, 1, 0), x.after(1, 1, 1, 1));
        DUE.fraction("after(1, 2, 1)", 1, 9, x.after(1, 2, 1, 0), x.after(1, 2, 1, 1));
        DUE.fraction("after(1, 3, 1)", 1, 27, x.after(1, 3, 1, 0), x.after(1, 3, 1, 1));
        DUE.fraction("after(1, 4, 1)", 1, 81, x.after(1, 4, 1, 0), x.after(1, 4, 1, 1));
        DUE.fraction("after(1, 4, 0)", 80, 81, x.after(1, 4, 0, 0), x.after(1, 4, 0, 1));
    }

    private static void afterEachLife() {
        DUE.sentence("16 each hearing of the one ahead: a TONGUE that is come to by two lives alone");
        TaughtTongues x = Given.with(CHAIN, 0, 4, 0);
        DUE.fraction("5 to 0 by one", 0, 1, x.after(5, 1, 0, 0), x.after(5, 1, 0, 1));
        // 5 to 1, 1 to 0: four sayings of two given meanings, each at least once: 14 of 81
        DUE.fraction("5 to 0 by two", 196, 6561, x.after(5, 2, 0, 0), x.after(5, 2, 0, 1));
        DUE.fraction("5 to 6 by two", 0, 1, x.after(5, 2, 6, 0), x.after(5, 2, 6, 1));
    }

    private static void livesOneToFour() {
        DUE.sentence("16 OUTSIDE: k 1 to 4");
        for (int hears = 1; hears <= 4; hears++) {
            TaughtTongues x = Given.with(1, hears, 0);
            for (int k : NO_LIVES) {
                DUE.is("k " + k + " by HEARS " + hears, LOST - 2, x.after(0, k, 0, 0));
            }
        }
    }

    private static void eightSayings() {
        DUE.sentence("16 HEARS times k is no more than 8 (else STATE)");
        for (int hears = 1; hears <= 4; hears++) {
            TaughtTongues x = Given.with(1, hears, 0);
            for (int k = 1; k <= 4; k++) {
                long answer = x.after(0, k, 0, 0);
                if (k <= MOST_LIVES_BY_HEARS[hears]) {
                    DUE.holds("HEARS " + hears + ", k " + k + " answers " + answer, answer > 0);
                } else {
                    DUE.is("HEARS " + hears + ", k " + k, LOST - 3, answer);
                }
            }
        }
        TaughtTongues y = Given.with(1, 4, 0);
        DUE.is("HEARS 4, k 4", LOST - 3, y.after(7, 4, 7, 1));
        y.set(1, 2);
        DUE.holds("no longer, behind HEARS 2", y.after(7, 4, 7, 1) > 0);
        y.set(1, 3);
        DUE.is("again, behind HEARS 3", LOST - 3, y.after(7, 4, 7, 1));
        DUE.is("STATE changes nothing", 3, y.told(1));
    }

    private static void afterRefusalsAtOnce() {
        DUE.sentence("16 UNKNOWN, OUTSIDE, STATE (LOST less 1, 2, 3), the first of these that fits");
        TaughtTongues x = Given.with(1, 3, 0);
        for (int wrong : new int[] {-1, 8, MIN, MAX}) {
            DUE.is("from", LOST - 1, x.after(wrong, 1, 0, 0));
            DUE.is("to", LOST - 1, x.after(0, 1, wrong, 0));
            DUE.is("from and k", LOST - 1, x.after(wrong, 0, 0, 0));
            DUE.is("to and k", LOST - 1, x.after(0, 5, wrong, 0));
            DUE.is("from and part", LOST - 1, x.after(wrong, 1, 0, 2));
            DUE.is("from and STATE", LOST - 1, x.after(wrong, 3, 0, 0));
            DUE.is("to and STATE", LOST - 1, x.after(0, 3, wrong, 0));
            DUE.is("to, part and STATE", LOST - 1, x.after(0, 4, wrong, -1));
        }
        for (int part : new int[] {-1, 2, MIN, MAX}) {
            DUE.is("part", LOST - 2, x.after(0, 1, 0, part));
            DUE.is("part and k", LOST - 2, x.after(0, 0, 0, part));
            DUE.is("part and STATE", LOST - 2, x.after(0, 3, 0, part));
        }
        DUE.is("k 5, which would be 15 sayings", LOST - 2, x.after(0, 5, 0, 0));
        DUE.is("STATE alone", LOST - 3, x.after(0, 3, 0, 0));
    }

    private static void afterNothingAndAll() {
        DUE.sentence("16 (0 by 1 for nothing), and 1 by 1 for what is sure");
        TaughtTongues x = Given.with("000:9;111:9", 0, 2, 0);
        for (int k = 1; k <= 4; k++) {
            DUE.fraction("after(7, " + k + ", 7)", 1, 1, x.after(7, k, 7, 0), x.after(7, k, 7, 1));
            DUE.fraction("after(7, " + k + ", 0)", 0, 1, x.after(7, k, 0, 0), x.after(7, k, 0, 1));
        }
    }

    private static void afterGoesByNow() {
        DUE.sentence("16 the odds of that, by HEARS, WEIGHTS, SLIP, text and LEARNER as they are now");
        TaughtTongues x = Given.with(0, 1, 0);
        DUE.fraction("at first", 1, 3, x.after(7, 1, 1, 0), x.after(7, 1, 1, 1));
        x.set(1, 2);
        DUE.fraction("HEARS 2", 1, 9, x.after(7, 1, 1, 0), x.after(7, 1, 1, 1));
        x.set(1, 1);
        DUE.fraction("HEARS 1", 1, 3, x.after(7, 1, 1, 0), x.after(7, 1, 1, 1));
        x.weight(0, 4);
        DUE.fraction("WEIGHT 4", 2, 3, x.after(7, 1, 1, 0), x.after(7, 1, 1, 1));
        x.weight(0, 1);
        DUE.fraction("WEIGHT 1", 1, 3, x.after(7, 1, 1, 0), x.after(7, 1, 1, 1));
        x.set(0, 5);
        DUE.fraction("SLIP 5", 7, 36, x.after(7, 1, 1, 0), x.after(7, 1, 1, 1));
        Given.sayAll(x, "111:9");
        DUE.fraction("signs alone are no text", 7, 36, x.after(7, 1, 1, 0), x.after(7, 1, 1, 1));
        x.before();
        DUE.fraction("a text", 0, 1, x.after(7, 1, 1, 0), x.after(7, 1, 1, 1));
        x.set(2, 1);
        DUE.fraction("LAZY", 7, 36, x.after(7, 1, 1, 0), x.after(7, 1, 1, 1));
        x.set(2, 2);
        DUE.fraction("MIND", 0, 1, x.after(7, 1, 1, 0), x.after(7, 1, 1, 1));
        x.set(0, 1);
        DUE.fraction("SLIP 1, where a FORM 0 outweighs 9 by 11", 1, 12, x.after(7, 1, 0, 0), x.after(7, 1, 0, 1));
    }

    // ---- promise 17

    private static void leadsByNoLives() {
        DUE.sentence("17 some number of lives (0, too) can bring it there");
        TaughtTongues x = Given.with(0, 1, 0);
        DUE.is("no life brings one to 7", 0, x.step(7, 7, 0));
        DUE.is("leads(7)", 128 + 16 + 4 + 2 + 1, x.leads(7));
        DUE.is("leads(3)", 8 + 4 + 2 + 1, x.leads(3));
        DUE.is("leads(0), to itself alone", 1, x.leads(0));
        x.set(0, 1);
        x.set(1, 4);
        for (int tongue = 0; tongue < 8; tongue++) {
            DUE.is("all: leads(" + tongue + ")", 255, x.leads(tongue));
        }
    }

    private static void leadsByAnyNumber() {
        DUE.sentence("17 some number of lives: more than AFTER can tell of");
        TaughtTongues x = Given.with(CHAIN, 0, 4, 0);
        DUE.is("5 to 6 by four lives of four sayings", 255, x.leads(5));
        DUE.is("leads(1)", 255 - 32, x.leads(1));
        DUE.is("leads(0)", 255 - 32 - 2, x.leads(0));
        DUE.is("leads(2)", 255 - 32 - 2 - 1, x.leads(2));
        DUE.is("leads(6)", 128 + 64 + 16 + 8, x.leads(6));
        DUE.is("leads(4)", 128 + 16 + 8, x.leads(4));
        DUE.is("leads(7)", 128 + 8, x.leads(7));
        DUE.is("leads(3)", 8, x.leads(3));
    }

    private static void leadsRefused() {
        DUE.sentence("17 TONGUES that one leads to, as bits. UNKNOWN");
        TaughtTongues x = Given.with(0, 1, 0);
        for (int tongue : new int[] {-1, 8, MIN, MAX}) {
            DUE.is("leads(" + tongue + ")", UNKNOWN, x.leads(tongue));
        }
        DUE.is("HEARS 4 refuses none", 1, Given.with(0, 4, 0).leads(0));
    }

    // ---- promise 18

    private static void lasting() {
        DUE.sentence("18 LASTS: TONGUES that all that they lead to lead back to");
        DUE.is("one alone", 1, Given.with(0, 2, 0).lasts(0));
        DUE.is("the last of a chain", 8, Given.with(CHAIN, 0, 4, 0).lasts(0));
        DUE.is("some", 16 + 4 + 2 + 1, Given.with(1, 1, 0).lasts(0));
        DUE.is("all but 7", 127, new TaughtTongues().lasts(0));
        DUE.is("all", 255, Given.with(1, 4, 0).lasts(0));
        DUE.is("two, the first and the last", 129, Given.with("000:9;111:9", 0, 1, 0).lasts(0));
    }

    private static void parts() {
        DUE.sentence("18 PARTS: LASTS in sets that lead to one another");
        DUE.is("one of one", 1, Given.with(0, 2, 0).lasts(1));
        DUE.is("one of four", 1, Given.with(1, 1, 0).lasts(1));
        DUE.is("one of all", 1, Given.with(1, 4, 0).lasts(1));
        DUE.is("one, though others lead there", 1, Given.with(CHAIN, 0, 4, 0).lasts(1));
        DUE.is("two", 2, Given.with("000:9;111:9", 0, 1, 0).lasts(1));
        DUE.is("two of other TONGUES", 2, Given.with("101:9;010:9", 0, 4, 2).lasts(1));
    }

    private static void kept() {
        DUE.sentence("18 KEPT: a TONGUE whose STEP to itself is 1");
        DUE.is("0 without slips", 1, Given.with(0, 4, 0).lasts(2));
        DUE.is("none with slips", 0, Given.with(1, 4, 0).lasts(2));
        DUE.is("two", 129, Given.with("000:9;111:9", 0, 4, 0).lasts(2));
        DUE.is("two others", 32 + 4, Given.with("101:9;010:9", 0, 4, 2).lasts(2));
        TaughtTongues x = Given.with("000:9", 1, 1, 0);
        DUE.fraction("11 of 12 is not 1", 11, 12, x.step(0, 0, 0), x.step(0, 0, 1));
        DUE.is("none is kept", 0, x.lasts(2));
    }

    private static void keptOfSlips() {
        DUE.sentence("18 KEPT: also with slips, if no saying outweighs what is thought beforehand");
        TaughtTongues x = Given.with("011:9", 4, 3, 0);
        DUE.is("three sayings are outweighed, 8 by 9", 64, x.lasts(2));
        DUE.is("LASTS", 64, x.lasts(0));
        x.set(1, 4);
        DUE.is("four are not, 16 by 9", 0, x.lasts(2));
        x.set(1, 3);
        Given.sayAll(x, "011:8");
        x.before();
        DUE.is("8 by 8, where the least is taken", 0, x.lasts(2));
    }

    private static void lastsRefused() {
        DUE.sentence("18 (what = 0), (1), (2). OUTSIDE");
        TaughtTongues x = new TaughtTongues();
        for (int what : new int[] {-1, 3, MIN, MAX}) {
            DUE.is("lasts(" + what + ")", OUTSIDE, x.lasts(what));
        }
        DUE.is("lasts(0)", 127, x.lasts(0));
        DUE.is("lasts(1)", 1, x.lasts(1));
        DUE.is("lasts(2)", 0, x.lasts(2));
    }
}
