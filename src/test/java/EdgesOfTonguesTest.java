/** Section 1 of the document and promises 1 to 8: each sentence that names a bound, by itself. */
public final class EdgesOfTonguesTest {
    private static final Due DUE = new Due();
    private static final int MIN = Integer.MIN_VALUE;
    private static final int MAX = Integer.MAX_VALUE;
    private static final int UNKNOWN = -1, OUTSIDE = -2, FULL = -4, NO = -5, NONE = -6;
    /** As many signs as there can be; the seventh line wants its digit, for which there is no room. */
    private static final String FORTY = "000:1;***:2;111:3;0*1:4;**0:5;101:6;000:";
    /** The signs that can stand at each place of a line, and behind it. */
    private static final String[] ALLOWED = {"01*", "01*", "01*", ":", "123456789", ";"};

    public static void main(String[] args) {
        valuesAtFirst();
        nothingAtFirst();
        objectsShareNothing();
        lastCall();
        meanings();
        weightsOneToFour();
        weightRefused();
        oddsByWeights();
        tongues();
        bitIsForm();
        slipNoughtToFive();
        hearsOneToFour();
        learnerNoughtToTwo();
        setWhich();
        slipTwelfths();
        codes();
        fortySigns();
        fullChangesNothing();
        wipeOfNoneAndOfAll();
        signsOfALine();
        lineBetweenTwo();
        firstSignThatCanNotStand();
        moreMustCome();
        noFault();
        starIsBoth();
        firstLineThatFits();
        oneIfNoneDoes();
        digitOneToNine();
        linesOneToSix();
        signsAreEmptyThen();
        noForAFault();
        textIsReplaced();
        DUE.end();
    }

    // ---- promise 1

    private static void isNew(TaughtTongues x) {
        DUE.is("told(0), SLIP", 1, x.told(0));
        DUE.is("told(1), HEARS", 2, x.told(1));
        DUE.is("told(2), LEARNER", 0, x.told(2));
        DUE.is("told(3), signs", 0, x.told(3));
        DUE.is("told(4), HEARD", 0, x.told(4));
        for (int meaning = 0; meaning < 3; meaning++) {
            DUE.is("told, WEIGHT of " + meaning, 1, x.told(10 + meaning));
        }
        for (int tongue = 0; tongue < 8; tongue++) {
            DUE.is("number(" + tongue + ")", 1, x.number(tongue));
            DUE.is("likeness(" + tongue + ")", 1, x.likeness(tongue));
        }
        // both sayings in form 0, or one meaning in both forms: 33 * 33 + 2 * 3 * 11 of 36 * 36
        DUE.fraction("step(0, 0)", 385, 432, x.step(0, 0, 0), x.step(0, 0, 1));
    }

    private static void valuesAtFirst() {
        DUE.sentence("1 All WEIGHTS are 1, SLIP 1, HEARS 2, LEARNER 0");
        TaughtTongues x = new TaughtTongues();
        isNew(x);
        DUE.is("set(0, 1)", 1, x.set(0, 1));
        DUE.is("set(1, 2)", 2, x.set(1, 2));
        DUE.is("set(2, 0)", 0, x.set(2, 0));
        for (int meaning = 0; meaning < 3; meaning++) {
            DUE.is("weight(" + meaning + ", 1)", 1, x.weight(meaning, 1));
        }
        isNew(x);
    }

    private static void nothingAtFirst() {
        DUE.sentence("1 nothing is HEARD, no text");
        TaughtTongues x = new TaughtTongues();
        DUE.is("forget()", 0, x.forget());
        DUE.is("wipe()", 0, x.wipe());
        DUE.is("fault()", 0, x.fault());
        DUE.is("before()", NO, x.before());
        DUE.is("takes()", 0, x.takes());
        DUE.fraction("thinks(7)", 1, 8, x.thinks(7, 0), x.thinks(7, 1));
        isNew(x);
    }

    private static void objectsShareNothing() {
        DUE.sentence("1 A new object, beside others that have been used");
        TaughtTongues ahead = new TaughtTongues();
        TaughtTongues used = Given.with(FORTY.substring(0, 35), 5, 4, 2);
        Given.weights(used, 2, 3, 4);
        Given.sayAll(used, FORTY);
        Given.hearAll(used, 0, 0, 1, 1, 2, 0, 0, 0, 1, 1, 2, 0);
        used.lasts(1);
        isNew(ahead);
        isNew(new TaughtTongues());
        DUE.is("the used one keeps its signs", 40, used.told(3));
        DUE.is("the used one keeps its sayings", 6, used.told(4));
    }

    private static void lastCall() {
        DUE.sentence("An object is used for at most 512 calls after it has been made");
        TaughtTongues x = new TaughtTongues();
        for (int call = 1; call <= 511; call += 7) {
            x.set(1, call % 4 + 1);
            x.set(0, call % 6);
            x.say(48);
            x.hear(call % 3, call % 2);
            x.lasts(0);
            x.often(7, 2, 12);
            x.chosen(7, -1);
        }
        DUE.is("told(3), the 512th call", 40, x.told(3));
        TaughtTongues y = new TaughtTongues();
        for (int call = 1; call <= 510; call += 2) {
            y.weight(0, call % 4 + 1);
            y.after(7, 4, 0, 0);
        }
        y.weight(0, 1);
        DUE.is("step(0, 0, 0), the 512th call", 385, y.step(0, 0, 0));
    }

    // ---- meanings, weights

    private static void meanings() {
        DUE.sentence("1 MEANINGS 0 to 2");
        for (int meaning = 0; meaning <= 2; meaning++) {
            TaughtTongues x = new TaughtTongues();
            DUE.is("weight(" + meaning + ", 3)", 1, x.weight(meaning, 3));
            for (int other = 0; other <= 2; other++) {
                DUE.is("told(" + (10 + other) + ")", other == meaning ? 3 : 1, x.told(10 + other));
            }
        }
        TaughtTongues x = new TaughtTongues();
        for (int meaning : new int[] {-1, 3, MIN, MAX}) {
            DUE.is("weight(" + meaning + ", 3)", UNKNOWN, x.weight(meaning, 3));
        }
        isNew(x);
    }

    private static void weightsOneToFour() {
        DUE.sentence("2 each with a WEIGHT (1 to 4; 1 at first): which it was");
        for (int meaning = 0; meaning <= 2; meaning++) {
            TaughtTongues x = new TaughtTongues();
            int was = 1;
            for (int v : new int[] {1, 4, 3, 2, 1, 4}) {
                DUE.is("weight(" + meaning + ", " + v + ")", was, x.weight(meaning, v));
                DUE.is("told(" + (10 + meaning) + ")", v, x.told(10 + meaning));
                was = v;
            }
        }
    }

    private static void weightRefused() {
        DUE.sentence("2 UNKNOWN; OUTSIDE");
        for (int meaning = 0; meaning <= 2; meaning++) {
            TaughtTongues x = new TaughtTongues();
            x.weight(meaning, 2);
            long ahead = x.step(7, 3, 0);
            for (int v : new int[] {0, 5, -1, MIN, MAX}) {
                DUE.is("weight(" + meaning + ", " + v + ")", OUTSIDE, x.weight(meaning, v));
                DUE.is("it stays", 2, x.told(10 + meaning));
            }
            DUE.is("UNKNOWN ahead of OUTSIDE", UNKNOWN, x.weight(3, 0));
            DUE.is("UNKNOWN ahead of OUTSIDE", UNKNOWN, x.weight(-1, 5));
            DUE.is("steps stay", ahead, x.step(7, 3, 0));
        }
    }

    private static void oddsByWeights() {
        DUE.sentence("1 says MEANING m with odds of its WEIGHT by all three WEIGHTS");
        TaughtTongues x = Given.with(0, 1, 0);
        Given.weights(x, 1, 4, 4);
        DUE.fraction("the least WEIGHT", 1, 9, x.step(7, 1, 0), x.step(7, 1, 1));
        DUE.fraction("the others", 4, 9, x.step(7, 4, 0), x.step(7, 4, 1));
        Given.weights(x, 4, 1, 1);
        DUE.fraction("the greatest WEIGHT", 2, 3, x.step(7, 1, 0), x.step(7, 1, 1));
        Given.weights(x, 4, 4, 4);
        DUE.fraction("all 4 is as all 1", 1, 3, x.step(7, 2, 0), x.step(7, 2, 1));
        TaughtTongues y = Given.with(1, 4, 0);
        Given.weights(y, 4, 4, 4);
        DUE.fraction("eight sayings of 144 each", 42334354033L, 176319369216L, y.after(3, 2, 3, 0), y.after(3, 2, 3, 1));
        Given.weights(y, 1, 1, 1);
        DUE.fraction("eight sayings of 36 each", 42334354033L, 176319369216L, y.after(3, 2, 3, 0), y.after(3, 2, 3, 1));
    }

    // ---- tongues

    private static void tongues() {
        DUE.sentence("8 TONGUES 0 to 7; UNKNOWN");
        TaughtTongues x = Given.with("000:2;111:9;***:5", 1, 2, 0);
        DUE.is("number(0)", 2, x.number(0));
        DUE.is("number(1)", 5, x.number(1));
        DUE.is("number(6)", 5, x.number(6));
        DUE.is("number(7)", 9, x.number(7));
        for (int tongue : new int[] {-1, 8, MIN, MAX}) {
            DUE.is("number(" + tongue + ")", UNKNOWN, x.number(tongue));
        }
    }

    private static void bitIsForm() {
        DUE.sentence("1 bit m is the FORM (0, 1) that one has for MEANING m");
        TaughtTongues x = Given.with("100:2;010:3;001:4;011:5;101:6;110:7", 1, 2, 0);
        int[] want = {1, 2, 3, 7, 4, 6, 5, 1};
        for (int tongue = 0; tongue < 8; tongue++) {
            DUE.is("number(" + tongue + ")", want[tongue], x.number(tongue));
        }
        for (int meaning = 0; meaning < 3; meaning++) {
            TaughtTongues y = new TaughtTongues();
            y.hear(meaning, 1);
            DUE.is("takes() behind hear(" + meaning + ", 1)", 1 << meaning, y.takes());
        }
    }

    // ---- promise 3

    private static void setBetween(int which, int least, int most, int first) {
        TaughtTongues x = new TaughtTongues();
        int was = first;
        for (int v = least; v <= most; v++) {
            DUE.is("set(" + which + ", " + v + ")", was, x.set(which, v));
            DUE.is("told(" + which + ")", v, x.told(which));
            was = v;
        }
        DUE.is("set(" + which + ", " + least + ")", most, x.set(which, least));
        for (int v : new int[] {least - 1, most + 1, MIN, MAX}) {
            DUE.is("set(" + which + ", " + v + ")", OUTSIDE, x.set(which, v));
            DUE.is("it stays", least, x.told(which));
        }
    }

    private static void slipNoughtToFive() {
        DUE.sentence("3 SLIP twelfths (0 to 5; 1 at first): which it was. OUTSIDE");
        setBetween(0, 0, 5, 1);
    }

    private static void hearsOneToFour() {
        DUE.sentence("3 HEARS SAYINGS (1 to 4; 2 at first): which it was. OUTSIDE");
        setBetween(1, 1, 4, 2);
    }

    private static void learnerNoughtToTwo() {
        DUE.sentence("3 LEARNERS: 0 BEST, 1 LAZY, 2 MIND. (0 at first.): which it was. OUTSIDE");
        setBetween(2, 0, 2, 0);
    }

    private static void setWhich() {
        DUE.sentence("3 0 SLIP, 1 HEARS, 2 LEARNER. OUTSIDE");
        TaughtTongues x = new TaughtTongues();
        for (int which : new int[] {-1, 3, 4, 10, 11, 12, MIN, MAX}) {
            for (int v : new int[] {0, 1, 2, 6, -1}) {
                DUE.is("set(" + which + ", " + v + ")", OUTSIDE, x.set(which, v));
            }
        }
        isNew(x);
        x.set(0, 4);
        DUE.is("SLIP alone", 4 * 100 + 2 * 10, x.told(0) * 100 + x.told(1) * 10 + x.told(2));
        x.set(1, 3);
        DUE.is("HEARS alone", 4 * 100 + 3 * 10, x.told(0) * 100 + x.told(1) * 10 + x.told(2));
        x.set(2, 2);
        DUE.is("LEARNER alone", 4 * 100 + 3 * 10 + 2, x.told(0) * 100 + x.told(1) * 10 + x.told(2));
    }

    private static void slipTwelfths() {
        DUE.sentence("1 heard in the other FORM with odds of SLIP twelfths (0 to 5), else in the FORM of the TONGUE");
        TaughtTongues x = Given.with(0, 1, 0);
        DUE.fraction("SLIP 0, other FORM", 0, 1, x.step(0, 1, 0), x.step(0, 1, 1));
        DUE.fraction("SLIP 0, own FORM", 1, 1, x.step(0, 0, 0), x.step(0, 0, 1));
        x.set(0, 5);
        DUE.fraction("SLIP 5, other FORM", 5, 36, x.step(0, 1, 0), x.step(0, 1, 1));
        DUE.fraction("SLIP 5, own FORM", 7, 12, x.step(0, 0, 0), x.step(0, 0, 1));
        x.set(0, 6);
        x.set(0, -1);
        DUE.fraction("behind refused ones", 5, 36, x.step(0, 1, 0), x.step(0, 1, 1));
    }

    // ---- signs

    private static void codes() {
        DUE.sentence("4 codes 33 to 126; none at first. OUTSIDE");
        TaughtTongues x = new TaughtTongues();
        for (int sign : new int[] {32, 127, 0, -1, 128, 33 + 256, 48 + 65536, MIN, MAX}) {
            DUE.is("say(" + sign + ")", OUTSIDE, x.say(sign));
            DUE.is("told(3)", 0, x.told(3));
        }
        int said = 0;
        for (int sign = 33; sign <= 126; sign++) {
            if (said == 40) {
                DUE.is("wipe()", 40, x.wipe());
                said = 0;
            }
            said++;
            DUE.is("say(" + sign + ")", said, x.say(sign));
        }
    }

    private static void fortySigns() {
        DUE.sentence("4 up to 40 signs. A sign more: how many. FULL");
        TaughtTongues x = new TaughtTongues();
        for (int i = 1; i <= 40; i++) {
            DUE.is("say the " + i, i, x.say(126));
            DUE.is("told(3)", i, x.told(3));
        }
        DUE.is("the 41st", FULL, x.say(126));
        DUE.is("the 41st again", FULL, x.say(33));
        DUE.is("OUTSIDE ahead of FULL", OUTSIDE, x.say(32));
        DUE.is("OUTSIDE ahead of FULL", OUTSIDE, x.say(127));
        DUE.is("told(3)", 40, x.told(3));
    }

    private static void fullChangesNothing() {
        DUE.sentence("4 FULL: They change nothing");
        TaughtTongues x = Given.signs(FORTY);
        DUE.is("say of 1", FULL, x.say('1'));
        DUE.is("say of x", FULL, x.say('x'));
        DUE.is("fault(): neither the first nor the last sign is another", 40, x.fault());
        DUE.is("wipe()", 40, x.wipe());
    }

    private static void wipeOfNoneAndOfAll() {
        DUE.sentence("5 Signs go: how many there were");
        TaughtTongues x = new TaughtTongues();
        DUE.is("of none", 0, x.wipe());
        x.say('0');
        DUE.is("of one", 1, x.wipe());
        DUE.is("of none again", 0, x.wipe());
        Given.sayAll(x, FORTY);
        DUE.is("of all", 40, x.wipe());
        DUE.is("told(3)", 0, x.told(3));
        DUE.is("fault() of none", 0, x.fault());
        Given.sayAll(x, "***:7");
        DUE.is("before()", 1, x.before());
        DUE.is("wipe() behind before()", 0, x.wipe());
        DUE.is("the text BEFOREHAND stays", 7, x.number(3));
        for (int i = 1; i <= 40; i++) {
            DUE.is("there is room for the " + i, i, x.say('0'));
        }
        DUE.is("and for no more", FULL, x.say('0'));
    }

    // ---- lines

    private static void signsOfALine() {
        DUE.sentence("6 three signs 0, 1 or *, a :, a digit 1 to 9: every sign at every place");
        for (int place = 0; place < 40; place++) {
            for (int sign = 33; sign <= 126; sign++) {
                TaughtTongues x = Given.signs(FORTY.substring(0, place));
                x.say(sign);
                boolean stands = ALLOWED[place % 6].indexOf(sign) >= 0;
                int behind = place % 6 == 4 ? NONE : place + 1;
                DUE.is("fault() with " + (char) sign + " at " + place, stands ? behind : place, x.fault());
            }
        }
    }

    private static void lineBetweenTwo() {
        DUE.sentence("6 LINES with a ; between two");
        DUE.is("not ahead of the first", 0, Given.signs(";000:1").fault());
        DUE.is("not behind the last", 6, Given.signs("000:1;").fault());
        DUE.is("not behind the sixth", 36, Given.signs(FORTY.substring(0, 36)).fault());
        DUE.is("not two", 6, Given.signs("000:1;;111:2").fault());
        DUE.is("not none", 5, Given.signs("000:1111:2").fault());
        DUE.is("not alone", 0, Given.signs(";").fault());
        DUE.is("one", NONE, Given.signs("000:1;111:2").fault());
    }

    private static void firstSignThatCanNotStand() {
        DUE.sentence("6 THE FAULT: the place (from 0 on) of the first sign that can not stand there");
        DUE.is("at 0", 0, Given.signs("x").fault());
        DUE.is("at 0, and behind", 0, Given.signs("xyz").fault());
        DUE.is("at 1 and 3", 1, Given.signs("0x0x1").fault());
        DUE.is("at the end", 4, Given.signs("000:0").fault());
        DUE.is("a sign too many", 5, Given.signs("000:11").fault());
        DUE.is("at 39", 39, Given.signs(FORTY.substring(0, 39) + ";").fault());
        DUE.is("at 38", 38, Given.signs(FORTY.substring(0, 38) + "2:").fault());
        TaughtTongues x = Given.signs("0x0");
        x.fault();
        DUE.is("signs stay", 3, x.told(3));
        DUE.is("and the fault", 1, x.fault());
        x.wipe();
        x.say('1');
        DUE.is("a fault that was wiped is none", 1, x.fault());
    }

    private static void moreMustCome() {
        DUE.sentence("6 THE FAULT: the number of signs, if more must come");
        for (int count = 0; count <= 40; count++) {
            if (count % 6 != 5) {
                DUE.is("fault() of " + count + " signs", count, Given.signs(FORTY.substring(0, count)).fault());
            }
        }
    }

    private static void noFault() {
        DUE.sentence("6 THE FAULT; NONE");
        for (int count : new int[] {5, 11, 17, 23, 29, 35}) {
            TaughtTongues x = Given.signs(FORTY.substring(0, count));
            DUE.is("fault() of " + count + " signs", NONE, x.fault());
            DUE.is("told(3)", count, x.told(3));
        }
    }

    private static void starIsBoth() {
        DUE.sentence("8 0, 1 or * (for MEANINGS 0, 1, 2; * is both)");
        for (int meaning = 0; meaning < 3; meaning++) {
            char[] line = "000:7".toCharArray();
            line[meaning] = '*';
            TaughtTongues x = Given.with(new String(line), 1, 2, 0);
            for (int tongue = 0; tongue < 8; tongue++) {
                boolean fits = tongue == 0 || tongue == 1 << meaning;
                DUE.is("number(" + tongue + ") by " + new String(line), fits ? 7 : 1, x.number(tongue));
            }
        }
        TaughtTongues all = Given.with("***:7", 1, 2, 0);
        for (int tongue = 0; tongue < 8; tongue++) {
            DUE.is("number(" + tongue + ") by ***:7", 7, all.number(tongue));
        }
    }

    private static void firstLineThatFits() {
        DUE.sentence("8 the number of the first LINE that fits the TONGUE");
        DUE.is("all fit: the first, though it is the least", 2, Given.with("***:2;***:9;000:8", 1, 2, 0).number(0));
        DUE.is("all fit: the first, though it is the greatest", 9, Given.with("***:9;***:2;000:1", 1, 2, 0).number(0));
        DUE.is("the one that names it stands behind", 3, Given.with("**1:3;111:9", 1, 2, 0).number(7));
        DUE.is("the sixth alone", 8, Given.with("000:1;000:2;000:3;000:4;000:5;111:8", 1, 2, 0).number(7));
    }

    private static void oneIfNoneDoes() {
        DUE.sentence("8 1, if none does");
        TaughtTongues x = Given.with("0**:9;*0*:8", 1, 2, 0);
        DUE.is("number(3)", 1, x.number(3));
        DUE.is("number(7)", 1, x.number(7));
        DUE.is("number(5)", 8, x.number(5));
        DUE.is("likeness(7)", 1, x.likeness(7));
    }

    private static void digitOneToNine() {
        DUE.sentence("8 a digit 1 to 9");
        for (int digit = 1; digit <= 9; digit++) {
            DUE.is("number(5) by " + digit, digit, Given.with("101:" + digit, 1, 2, 0).number(5));
        }
        DUE.is("before() with 0", NO, Given.signs("101:0").before());
        DUE.is("before() with :, the code behind 9", NO, Given.signs("101::").before());
    }

    // ---- promise 7

    private static void linesOneToSix() {
        DUE.sentence("7 The text BEFOREHAND is the signs': LINES");
        for (int lines = 1; lines <= 6; lines++) {
            TaughtTongues x = Given.signs(FORTY.substring(0, 6 * lines - 1));
            DUE.is("before() of " + lines, lines, x.before());
        }
    }

    private static void signsAreEmptyThen() {
        DUE.sentence("7 (they are empty then)");
        TaughtTongues x = Given.signs(FORTY.substring(0, 35));
        x.before();
        DUE.is("told(3)", 0, x.told(3));
        DUE.is("fault()", 0, x.fault());
        DUE.is("before() again", NO, x.before());
        DUE.is("number(7) stays", 2, x.number(7));
        for (int i = 1; i <= 40; i++) {
            DUE.is("there is room for the " + i, i, x.say('0'));
        }
    }

    private static void noForAFault() {
        DUE.sentence("7 NO: there is a FAULT");
        for (int count = 0; count <= 40; count++) {
            if (count % 6 != 5) {
                TaughtTongues x = Given.with("***:7", 1, 2, 0);
                Given.sayAll(x, FORTY.substring(0, count));
                DUE.is("before() of " + count + " signs", NO, x.before());
                DUE.is("signs stay", count, x.told(3));
                DUE.is("the text stays", 7, x.number(0));
                DUE.is("the fault stays", count, x.fault());
            }
        }
        TaughtTongues y = Given.with("***:7", 1, 2, 0);
        Given.sayAll(y, "000:2;111:");
        DUE.is("before()", NO, y.before());
        DUE.is("a sign more", 11, y.say('3'));
        DUE.is("before()", 2, y.before());
        DUE.is("number(0)", 2, y.number(0));
        DUE.is("number(7)", 3, y.number(7));
    }

    private static void textIsReplaced() {
        DUE.sentence("7 The text BEFOREHAND is the signs', and no more what it was");
        TaughtTongues x = Given.with(FORTY.substring(0, 35), 1, 2, 0);
        Given.sayAll(x, "100:9");
        DUE.is("before()", 1, x.before());
        for (int tongue = 0; tongue < 8; tongue++) {
            DUE.is("number(" + tongue + ")", tongue == 1 ? 9 : 1, x.number(tongue));
        }
        DUE.is("takes() goes by it", 1, x.takes());
        DUE.is("chosen(1, -1) goes by it", 1, x.chosen(1, -1));
    }
}
