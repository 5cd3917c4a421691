/** Counts the answers that are not as due, tells each of them, and ends the test by them. */
public final class Due {
    private int asked = 0;
    private int wrong = 0;
    private String sentence = "";
    private int askedAhead = 0;

    /** The answers from here on are due by this sentence of the document. */
    public void sentence(String words) {
        lookAtLast();
        sentence = "[" + words + "] ";
        askedAhead = asked;
    }

    /** A sentence that nothing was asked of would be one without a test. */
    private void lookAtLast() {
        if (!sentence.isEmpty() && asked == askedAhead) {
            wrong++;
            System.out.println(sentence + "has no test");
        }
    }

    public void is(String call, long want, long got) {
        asked++;
        if (got != want) {
            wrong++;
            System.out.println(sentence + call + " answered " + got + ", due is " + want);
        }
    }

    /** Both parts of a fraction. */
    public void fraction(String call, long upper, long lower, long gotUpper, long gotLower) {
        is(call + " upper", upper, gotUpper);
        is(call + " lower", lower, gotLower);
    }

    public void holds(String what, boolean truth) {
        is(what, 1, truth ? 1 : 0);
    }

    public boolean hasMany() {
        return wrong > 40;
    }

    public void end() {
        lookAtLast();
        System.out.println(wrong == 0 ? "all " + asked + " answers are as due" : wrong + " answers are not as due");
        if (wrong != 0) {
            System.exit(1);
        }
    }
}
