import java.util.Arrays;

/**
 * Tongues that are taught from life to life: how learners come to a tongue by a few sayings,
 * and what becomes of tongues after some lives.
 */
public final class TaughtTongues {
    public static final int UNKNOWN = -1, OUTSIDE = -2, STATE = -3, FULL = -4, NO = -5, NONE = -6;
    public static final long LOST = -1000000000000000000L;

    private static final int FINE = 0;
    private static final int MEANINGS = 3;
    private static final int TONGUES = 8;
    private static final int ALL_TONGUES = 255;
    /** A saying's number is twice its meaning and its form. */
    private static final int SAYINGS = 6;
    private static final int TWELVE = 12;
    private static final int MOST_WEIGHT = 4;
    private static final int MOST_SLIP = 5;
    private static final int MOST_HEARS = 4;
    private static final int MOST_HEARD = 6;
    private static final int MOST_LIVES = 4;
    /** More sayings than these over all lives, and the odds would not go into a long. */
    private static final int MOST_SAYINGS_OF_LIVES = 8;
    private static final int BEST = 0, LAZY = 1, MIND = 2;

    private final Signs signs = new Signs();
    private final Counts heard = new Counts();
    private final Learner learner = new Learner();
    private final Lots lots = new Lots(learner);
    private final Steps steps = new Steps(learner, lots);
    private final int[] reaches = new int[TONGUES];

    public TaughtTongues() {
    }

    // ---- 1 tongues

    public int weight(int meaning, int v) {
        if (!isMeaning(meaning)) {
            return UNKNOWN;
        }
        if (!isBetween(v, 1, MOST_WEIGHT)) {
            return OUTSIDE;
        }
        int was = steps.weights[meaning];
        steps.weights[meaning] = v;
        steps.known = false;
        return was;
    }

    public int set(int which, int v) {
        switch (which) {
            case 0:
                return isBetween(v, 0, MOST_SLIP) ? changeSlip(v) : OUTSIDE;
            case 1:
                return isBetween(v, 1, MOST_HEARS) ? changeHears(v) : OUTSIDE;
            case 2:
                return isBetween(v, BEST, MIND) ? changeLearner(v) : OUTSIDE;
            default:
                return OUTSIDE;
        }
    }

    public int say(int sign) {
        if (!isBetween(sign, Signs.LEAST_CODE, Signs.MOST_CODE)) {
            return OUTSIDE;
        }
        return signs.add(sign) ? signs.count : FULL;
    }

    public int wipe() {
        return signs.clear();
    }

    public int fault() {
        return signs.firstFault();
    }

    public int before() {
        if (signs.firstFault() != NONE) {
            return NO;
        }
        int lines = signs.lines();
        for (int tongue = 0; tongue < TONGUES; tongue++) {
            learner.numbers[tongue] = signs.numberFor(tongue);
        }
        signs.clear();
        learnerChanged();
        return lines;
    }

    public int number(int tongue) {
        return isTongue(tongue) ? learner.numbers[tongue] : UNKNOWN;
    }

    // ---- 2 what is heard

    public int hear(int meaning, int form) {
        if (!isMeaning(meaning)) {
            return UNKNOWN;
        }
        if (!isForm(form)) {
            return OUTSIDE;
        }
        if (heard.all >= MOST_HEARD) {
            return FULL;
        }
        heard.add(2 * meaning + form);
        return heard.all;
    }

    public int forget() {
        int were = heard.all;
        heard.clear();
        return were;
    }

    public long likeness(int tongue) {
        return isTongue(tongue) ? learner.likenessOf(tongue, heard) : UNKNOWN;
    }

    public long thinks(int tongue, int part) {
        int refusal = refusalOf(isTongue(tongue), isPart(part));
        if (refusal != FINE) {
            return LOST + refusal;
        }
        long together = 0;
        for (int each = 0; each < TONGUES; each++) {
            together += learner.likenessOf(each, heard);
        }
        return fraction(learner.likenessOf(tongue, heard), together, part);
    }

    public int takes() {
        return learner.choice(heard);
    }

    // ---- 3 steps

    public long step(int from, int to, int part) {
        int refusal = refusalOf(isTongue(from) && isTongue(to), isPart(part));
        if (refusal != FINE) {
            return LOST + refusal;
        }
        return fraction(steps.rowOf(from, from, 0)[to], steps.whole(1), part);
    }

    public long book(int book, int b, int from, int to, int part) {
        boolean known = isTongue(book) && isTongue(from) && isTongue(to);
        int refusal = refusalOf(known, isBetween(b, 0, steps.hears) && isPart(part));
        if (refusal != FINE) {
            return LOST + refusal;
        }
        return fraction(steps.rowOf(from, book, b)[to], steps.whole(1), part);
    }

    public long after(int from, int k, int to, int part) {
        int refusal = refusalOfLives(isTongue(from) && isTongue(to), isPart(part), k);
        if (refusal != FINE) {
            return LOST + refusal;
        }
        steps.know();
        return fraction(steps.forward(from, k)[to], steps.whole(k), part);
    }

    public int leads(int tongue) {
        if (!isTongue(tongue)) {
            return UNKNOWN;
        }
        steps.know();
        findReaches();
        return reaches[tongue];
    }

    public int lasts(int what) {
        if (!isBetween(what, 0, 2)) {
            return OUTSIDE;
        }
        steps.know();
        if (what == 2) {
            return steps.keptOnes();
        }
        findReaches();
        return what == 0 ? lastingOnes() : countParts(lastingOnes());
    }

    // ---- 4 lives

    public long lives(int tongue, int meaning, int form, int k, int part) {
        boolean known = isMeaning(meaning) && isTongue(tongue);
        int refusal = refusalOfLives(known, isForm(form) && isPart(part), k);
        if (refusal != FINE) {
            return LOST + refusal;
        }
        steps.know();
        long odds = oddsOfForm(steps.forward(tongue, k), meaning, form);
        return fraction(odds, steps.whole(k), part);
    }

    public int often(int tongue, int meaning, int h) {
        int refusal = refusalOf(isTongue(tongue) && isMeaning(meaning), isBetween(h, 0, TWELVE));
        if (refusal != FINE) {
            return refusal;
        }
        int own = steps.weights[meaning];
        int least = NONE;
        for (int trial = 1; trial <= MOST_WEIGHT && least == NONE; trial++) {
            steps.weights[meaning] = trial;
            long[] row = steps.rowOf(tongue, tongue, 0);
            long odds = oddsOfForm(row, meaning, formOf(tongue, meaning));
            if (odds * TWELVE >= h * steps.whole(1)) {
                least = trial;
            }
        }
        steps.weights[meaning] = own;
        return least;
    }

    public int chosen(int tongue, int i) {
        if (!isTongue(tongue)) {
            return UNKNOWN;
        }
        int lot = lots.firstThatTeaches(tongue);
        if (lot == NONE) {
            return NONE;
        }
        int size = lots.sizeOf(lot);
        if (i == -1) {
            return size;
        }
        return isBetween(i, 0, size - 1) ? lots.sayingOf(lot, size - 1 - i) / 2 : NONE;
    }

    public long back(int tongue, int k, int was, int part) {
        int refusal = refusalOfLives(isTongue(tongue) && isTongue(was), isPart(part), k);
        if (refusal != FINE) {
            return LOST + refusal;
        }
        steps.know();
        long[] origins = steps.backward(tongue, k);
        long together = 0;
        for (int each = 0; each < TONGUES; each++) {
            together += origins[each];
        }
        return fraction(origins[was], together, part);
    }

    public int guess(int tongue, int k, int what) {
        int refusal = refusalOfLives(isTongue(tongue), isBetween(what, 0, 1), k);
        if (refusal != FINE) {
            return refusal;
        }
        steps.know();
        long[] origins = steps.backward(tongue, k);
        int likeliest = 0;
        boolean deaf = true;
        for (int each = 1; each < TONGUES; each++) {
            deaf = deaf && origins[each] == origins[0];
            if (origins[each] > origins[likeliest]) {
                likeliest = each;
            }
        }
        if (what == 1) {
            return deaf ? 1 : 0;
        }
        return origins[likeliest] == 0 ? NONE : likeliest;
    }

    public int told(int what) {
        switch (what) {
            case 0:
                return learner.slip;
            case 1:
                return steps.hears;
            case 2:
                return learner.kind;
            case 3:
                return signs.count;
            case 4:
                return heard.all;
            case 10:
            case 11:
            case 12:
                return steps.weights[what - 10];
            default:
                return OUTSIDE;
        }
    }

    // ---- changes

    private int changeSlip(int v) {
        int was = learner.slip;
        learner.slip = v;
        learnerChanged();
        return was;
    }

    private int changeHears(int v) {
        int was = steps.hears;
        steps.hears = v;
        steps.known = false;
        return was;
    }

    private int changeLearner(int v) {
        int was = learner.kind;
        learner.kind = v;
        learnerChanged();
        return was;
    }

    private void learnerChanged() {
        lots.forgetChoices();
        steps.known = false;
    }

    // ---- which lead where

    /** Only behind steps.know(). */
    private void findReaches() {
        for (int from = 0; from < TONGUES; from++) {
            reaches[from] = 1 << from | steps.nextOnes(from);
        }
        for (int by = 0; by < TONGUES; by++) {
            for (int from = 0; from < TONGUES; from++) {
                if (isIn(reaches[from], by)) {
                    reaches[from] |= reaches[by];
                }
            }
        }
    }

    private int lastingOnes() {
        int lasting = ALL_TONGUES;
        for (int from = 0; from < TONGUES; from++) {
            for (int to = 0; to < TONGUES; to++) {
                if (isIn(reaches[from], to) && !isIn(reaches[to], from)) {
                    lasting &= ~(1 << from);
                }
            }
        }
        return lasting;
    }

    /** What a lasting tongue leads to is its whole part, so each part is counted at its least tongue. */
    private int countParts(int lasting) {
        int parts = 0;
        for (int tongue = 0; tongue < TONGUES; tongue++) {
            int lessOnes = reaches[tongue] & ((1 << tongue) - 1);
            if (isIn(lasting, tongue) && lessOnes == 0) {
                parts++;
            }
        }
        return parts;
    }

    private static boolean isIn(int ones, int tongue) {
        return (ones >> tongue & 1) == 1;
    }

    private static long oddsOfForm(long[] row, int meaning, int form) {
        long odds = 0;
        for (int tongue = 0; tongue < TONGUES; tongue++) {
            if (formOf(tongue, meaning) == form) {
                odds += row[tongue];
            }
        }
        return odds;
    }

    // ---- refusals

    private static int refusalOf(boolean known, boolean inside) {
        if (!known) {
            return UNKNOWN;
        }
        return inside ? FINE : OUTSIDE;
    }

    private int refusalOfLives(boolean known, boolean inside, int k) {
        int refusal = refusalOf(known, inside && isBetween(k, 1, MOST_LIVES));
        if (refusal != FINE) {
            return refusal;
        }
        return steps.hears * k > MOST_SAYINGS_OF_LIVES ? STATE : FINE;
    }

    private static boolean isTongue(int tongue) {
        return isBetween(tongue, 0, TONGUES - 1);
    }

    private static boolean isMeaning(int meaning) {
        return isBetween(meaning, 0, MEANINGS - 1);
    }

    private static boolean isForm(int form) {
        return isBetween(form, 0, 1);
    }

    private static boolean isPart(int part) {
        return isBetween(part, 0, 1);
    }

    private static boolean isBetween(int v, int least, int most) {
        return v >= least && v <= most;
    }

    // ---- numbers

    private static int formOf(int tongue, int meaning) {
        return tongue >> meaning & 1;
    }

    private static long power(long base, int times) {
        long product = 1;
        for (int i = 0; i < times; i++) {
            product *= base;
        }
        return product;
    }

    private static long fraction(long upper, long lower, int part) {
        if (upper <= 0 || lower <= 0) {
            return part == 0 ? 0 : 1;
        }
        long divisor = commonDivisor(upper, lower);
        if (divisor <= 0) {
            return LOST;
        }
        return (part == 0 ? upper : lower) / divisor;
    }

    /** Longs need fewer than a hundred rounds, so the bound is never what ends the loop. */
    private static long commonDivisor(long a, long b) {
        long greater = a;
        long less = b;
        for (int round = 0; round < 1000 && less != 0; round++) {
            long rest = greater % less;
            greater = less;
            less = rest;
        }
        return greater;
    }

    /** The signs that are said, before they become what is thought beforehand. */
    private static final class Signs {
        static final int LEAST_CODE = 33;
        static final int MOST_CODE = 126;
        private static final int MOST_SIGNS = 40;
        /** A line and the ; behind it. */
        private static final int LINE_STEP = 6;
        private static final int COLON_PLACE = 3;
        private static final int DIGIT_PLACE = 4;

        private final int[] codes = new int[MOST_SIGNS];
        private int count = 0;

        boolean add(int code) {
            if (count >= MOST_SIGNS) {
                return false;
            }
            codes[count] = code;
            count++;
            return true;
        }

        int clear() {
            int were = count;
            count = 0;
            return were;
        }

        int firstFault() {
            for (int place = 0; place < count; place++) {
                if (!canStand(codes[place], place % LINE_STEP)) {
                    return place;
                }
            }
            return count % LINE_STEP == LINE_STEP - 1 ? NONE : count;
        }

        private static boolean canStand(int code, int placeInLine) {
            if (placeInLine < COLON_PLACE) {
                return code == '0' || code == '1' || code == '*';
            }
            if (placeInLine == COLON_PLACE) {
                return code == ':';
            }
            if (placeInLine == DIGIT_PLACE) {
                return code >= '1' && code <= '9';
            }
            return code == ';';
        }

        /** How many lines stand there; only for signs without a fault. */
        int lines() {
            return (count + 1) / LINE_STEP;
        }

        /** The number of the first line that fits; only for signs without a fault. */
        int numberFor(int tongue) {
            for (int start = 0; start + DIGIT_PLACE < count; start += LINE_STEP) {
                if (lineFits(start, tongue)) {
                    return codes[start + DIGIT_PLACE] - '0';
                }
            }
            return 1;
        }

        private boolean lineFits(int start, int tongue) {
            for (int meaning = 0; meaning < MEANINGS; meaning++) {
                int code = codes[start + meaning];
                if (code != '*' && code - '0' != formOf(tongue, meaning)) {
                    return false;
                }
            }
            return true;
        }
    }

    /** How often each saying is among some: no learner asks in which order they came. */
    private static final class Counts {
        private final int[] times = new int[SAYINGS];
        private int all = 0;

        void add(int saying) {
            times[saying]++;
            all++;
        }

        void clear() {
            Arrays.fill(times, 0);
            all = 0;
        }

        int sharedWith(int tongue) {
            int shared = 0;
            for (int meaning = 0; meaning < MEANINGS; meaning++) {
                shared += times[2 * meaning + formOf(tongue, meaning)];
            }
            return shared;
        }
    }

    /** What one thinks beforehand, and how one takes a tongue. */
    private static final class Learner {
        private final int[] numbers = {1, 1, 1, 1, 1, 1, 1, 1};
        private int slip = 1;
        private int kind = BEST;

        long likenessOf(int tongue, Counts sayings) {
            int shared = sayings.sharedWith(tongue);
            return likenessBy(tongue, shared, sayings.all - shared);
        }

        private long likenessBy(int tongue, int shared, int others) {
            return numbers[tongue] * power(TWELVE - slip, shared) * power(slip, others);
        }

        /** Tongues are looked at from the least on, so the first that fits the lazy one is its least. */
        int choice(Counts sayings) {
            int best = 0;
            long most = -1;
            for (int tongue = 0; tongue < TONGUES; tongue++) {
                int shared = sayings.sharedWith(tongue);
                if (kind == LAZY && shared == sayings.all) {
                    return tongue;
                }
                long likeness = likenessBy(tongue, shared, sayings.all - shared);
                if (likeness > most || likeness == most && isRather(tongue, best)) {
                    best = tongue;
                    most = likeness;
                }
            }
            return best;
        }

        private boolean isRather(int tongue, int best) {
            return kind == MIND && Integer.bitCount(tongue) < Integer.bitCount(best);
        }
    }

    /**
     * All lots of up to four sayings without their order (210, where rows are 1555), each made of
     * a smaller lot by a last saying that is not less than those in it. The lots of a size stand
     * together, in the order of their rows.
     */
    private static final class Lots {
        /** The first lot of each size, and the number of all. */
        private static final int[] FIRST = {0, 1, 7, 28, 84, 210};
        private static final int ALL = 210;
        private static final int NOT_KNOWN = -1;

        private final Learner learner;
        private final int[] smaller = new int[ALL];
        private final int[] last = new int[ALL];
        /** The lot that a saying more makes, for lots that are not of the greatest size. */
        private final int[] greater = new int[FIRST[MOST_HEARS] * SAYINGS];
        private final int[] choices = new int[ALL];
        private final Counts counts = new Counts();

        Lots(Learner learner) {
            this.learner = learner;
            for (int size = 0; size < MOST_HEARS; size++) {
                makeGreaterOnes(size);
                joinGreaterOnes(size);
            }
            forgetChoices();
        }

        private void makeGreaterOnes(int size) {
            int next = FIRST[size + 1];
            for (int lot = FIRST[size]; lot < FIRST[size + 1]; lot++) {
                for (int saying = last[lot]; saying < SAYINGS; saying++) {
                    greater[lot * SAYINGS + saying] = next;
                    smaller[next] = lot;
                    last[next] = saying;
                    next++;
                }
            }
        }

        /** A saying below the last one: the same lot comes of the smaller one, the last put behind. */
        private void joinGreaterOnes(int size) {
            for (int lot = FIRST[size]; lot < FIRST[size + 1]; lot++) {
                for (int saying = 0; saying < last[lot]; saying++) {
                    int other = greater[smaller[lot] * SAYINGS + saying];
                    greater[lot * SAYINGS + saying] = greater[other * SAYINGS + last[lot]];
                }
            }
        }

        void forgetChoices() {
            Arrays.fill(choices, NOT_KNOWN);
        }

        int choiceBehind(int lot) {
            if (choices[lot] == NOT_KNOWN) {
                countSayings(lot);
                choices[lot] = learner.choice(counts);
            }
            return choices[lot];
        }

        private void countSayings(int lot) {
            counts.clear();
            int rest = lot;
            for (int i = 0; i < MOST_HEARS && rest > 0; i++) {
                counts.add(last[rest]);
                rest = smaller[rest];
            }
        }

        int sizeOf(int lot) {
            int size = 0;
            while (size < MOST_HEARS && lot >= FIRST[size + 1]) {
                size++;
            }
            return size;
        }

        /** The saying that has so many others of the lot behind it. */
        int sayingOf(int lot, int behind) {
            int rest = lot;
            for (int i = 0; i < behind && i < MOST_HEARS; i++) {
                rest = smaller[rest];
            }
            return last[rest];
        }

        /** The lots' order is that of size and then of meanings, as a tongue has one form for each. */
        int firstThatTeaches(int tongue) {
            for (int lot = 1; lot < ALL; lot++) {
                countSayings(lot);
                if (counts.sharedWith(tongue) == counts.all && choiceBehind(lot) == tongue) {
                    return lot;
                }
            }
            return NONE;
        }
    }

    /** From which tongue to which: odds as whole numbers, out of a whole that is the same for all. */
    private static final class Steps {
        private final Learner learner;
        private final Lots lots;
        private final int[] weights = {1, 1, 1};
        private int hears = 2;
        private final long[] bookSays = new long[SAYINGS];
        private final long[] teacherSays = new long[SAYINGS];
        private final long[] lotOdds = new long[Lots.ALL];
        private final long[] row = new long[TONGUES];
        private final long[] odds = new long[TONGUES * TONGUES];
        /** Whether odds are those of the weights, slip, learner and text of now. */
        private boolean known = false;
        private final long[] now = new long[TONGUES];
        private final long[] next = new long[TONGUES];

        Steps(Learner learner, Lots lots) {
            this.learner = learner;
            this.lots = lots;
        }

        /** What odds of k lives are out of. */
        long whole(int k) {
            return power(TWELVE * (weights[0] + weights[1] + weights[2]), hears * k);
        }

        /** The odds of each tongue after one life, the first b sayings being the book's. */
        long[] rowOf(int from, int book, int b) {
            listSayings(book, bookSays);
            listSayings(from, teacherSays);
            Arrays.fill(lotOdds, 0L);
            lotOdds[0] = 1;
            for (int size = 0; size < hears && size < MOST_HEARS; size++) {
                hearOneMore(size, size < b ? bookSays : teacherSays);
            }
            Arrays.fill(row, 0L);
            for (int lot = Lots.FIRST[hears]; lot < Lots.FIRST[hears + 1]; lot++) {
                if (lotOdds[lot] != 0) {
                    row[lots.choiceBehind(lot)] += lotOdds[lot];
                }
            }
            return row;
        }

        private void listSayings(int tongue, long[] says) {
            for (int saying = 0; saying < SAYINGS; saying++) {
                int meaning = saying / 2;
                boolean isOwn = formOf(tongue, meaning) == saying % 2;
                says[saying] = weights[meaning] * (isOwn ? TWELVE - learner.slip : learner.slip);
            }
        }

        private void hearOneMore(int size, long[] says) {
            for (int lot = Lots.FIRST[size]; lot < Lots.FIRST[size + 1]; lot++) {
                if (lotOdds[lot] == 0) {
                    continue;
                }
                for (int saying = 0; saying < SAYINGS; saying++) {
                    lotOdds[lots.greater[lot * SAYINGS + saying]] += lotOdds[lot] * says[saying];
                }
            }
        }

        void know() {
            if (known) {
                return;
            }
            for (int from = 0; from < TONGUES; from++) {
                System.arraycopy(rowOf(from, from, 0), 0, odds, from * TONGUES, TONGUES);
            }
            known = true;
        }

        /** The odds of each tongue after k lives; only behind know(). */
        long[] forward(int from, int k) {
            startAt(from);
            for (int life = 0; life < k; life++) {
                Arrays.fill(next, 0L);
                for (int i = 0; i < TONGUES * TONGUES; i++) {
                    next[i % TONGUES] += now[i / TONGUES] * odds[i];
                }
                System.arraycopy(next, 0, now, 0, TONGUES);
            }
            return now;
        }

        /** For each tongue the odds that it comes to this one after k lives; only behind know(). */
        long[] backward(int to, int k) {
            startAt(to);
            for (int life = 0; life < k; life++) {
                Arrays.fill(next, 0L);
                for (int i = 0; i < TONGUES * TONGUES; i++) {
                    next[i / TONGUES] += odds[i] * now[i % TONGUES];
                }
                System.arraycopy(next, 0, now, 0, TONGUES);
            }
            return now;
        }

        private void startAt(int tongue) {
            Arrays.fill(now, 0L);
            now[tongue] = 1;
        }

        /** The tongues that one can come to by one life, as bits; only behind know(). */
        int nextOnes(int from) {
            int ones = 0;
            for (int to = 0; to < TONGUES; to++) {
                if (odds[from * TONGUES + to] > 0) {
                    ones |= 1 << to;
                }
            }
            return ones;
        }

        /** The tongues that are never left, as bits; only behind know(). */
        int keptOnes() {
            int ones = 0;
            for (int tongue = 0; tongue < TONGUES; tongue++) {
                if (odds[tongue * TONGUES + tongue] == whole(1)) {
                    ones |= 1 << tongue;
                }
            }
            return ones;
        }
    }
}
