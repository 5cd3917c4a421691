import java.math.BigInteger;
import java.util.ArrayList;
import java.util.List;
import java.util.regex.Matcher;
import java.util.regex.Pattern;

/**
 * The document once more, in the slowest and plainest way: every row of sayings is gone through,
 * lives are gone through one by one, nothing but the learner's choices is kept from call to call.
 */
public final class PlainTongues {
    private static final long LOST = -1000000000000000000L;
    private static final Pattern TEXT = Pattern.compile("[01*]{3}:[1-9](;[01*]{3}:[1-9])*");

    private final int[] weights = {1, 1, 1};
    private int slip = 1;
    private int hears = 2;
    private int learner = 0;
    private String signs = "";
    private String text = "";
    private final List<int[]> heard = new ArrayList<>();
    private int[] choices = null;

    private static boolean in(int v, int least, int most) {
        return v >= least && v <= most;
    }

    private static int form(int tongue, int meaning) {
        return tongue / (1 << meaning) % 2;
    }

    public int weight(int meaning, int v) {
        if (!in(meaning, 0, 2)) return -1;
        if (!in(v, 1, 4)) return -2;
        int was = weights[meaning];
        weights[meaning] = v;
        return was;
    }

    public int set(int which, int v) {
        int was = told(which);
        if (which == 0 && in(v, 0, 5)) slip = v;
        else if (which == 1 && in(v, 1, 4)) hears = v;
        else if (which == 2 && in(v, 0, 2)) learner = v;
        else return -2;
        choices = null;
        return was;
    }

    public int say(int sign) {
        if (!in(sign, 33, 126)) return -2;
        if (signs.length() == 40) return -4;
        signs += (char) sign;
        return signs.length();
    }

    public int wipe() {
        int were = signs.length();
        signs = "";
        return were;
    }

    public int fault() {
        for (int end = 0; end <= signs.length(); end++) {
            Matcher matcher = TEXT.matcher(signs.substring(0, end));
            boolean fits = matcher.matches();
            if (!fits && !matcher.hitEnd()) return end - 1;
            if (fits && end == signs.length()) return -6;
        }
        return signs.length();
    }

    public int before() {
        if (fault() != -6) return -5;
        text = signs;
        signs = "";
        choices = null;
        return text.split(";").length;
    }

    public int number(int tongue) {
        if (!in(tongue, 0, 7)) return -1;
        if (text.isEmpty()) return 1;
        String forms = "" + form(tongue, 0) + form(tongue, 1) + form(tongue, 2);
        for (String line : text.split(";")) {
            String pattern = line.substring(0, 3).replace("*", ".");
            if (forms.matches(pattern)) return Integer.parseInt(line.substring(4));
        }
        return 1;
    }

    public int hear(int meaning, int form) {
        if (!in(meaning, 0, 2)) return -1;
        if (!in(form, 0, 1)) return -2;
        if (heard.size() == 6) return -4;
        heard.add(new int[] {meaning, form});
        return heard.size();
    }

    public int forget() {
        int were = heard.size();
        heard.clear();
        return were;
    }

    private long likenessOf(int tongue, List<int[]> sayings) {
        long likeness = number(tongue);
        for (int[] saying : sayings) {
            likeness *= form(tongue, saying[0]) == saying[1] ? 12 - slip : slip;
        }
        return likeness;
    }

    private boolean hasAll(int tongue, List<int[]> sayings) {
        for (int[] saying : sayings) {
            if (form(tongue, saying[0]) != saying[1]) return false;
        }
        return true;
    }

    private int choice(List<int[]> sayings) {
        for (int tongue = 0; learner == 1 && tongue < 8; tongue++) {
            if (hasAll(tongue, sayings)) return tongue;
        }
        long most = 0;
        for (int tongue = 0; tongue < 8; tongue++) {
            most = Math.max(most, likenessOf(tongue, sayings));
        }
        int[] order = learner == 2 ? new int[] {0, 1, 2, 4, 3, 5, 6, 7} : new int[] {0, 1, 2, 3, 4, 5, 6, 7};
        for (int tongue : order) {
            if (likenessOf(tongue, sayings) == most) return tongue;
        }
        throw new IllegalStateException("one has the most");
    }

    public long likeness(int tongue) {
        return in(tongue, 0, 7) ? likenessOf(tongue, heard) : -1;
    }

    private static long part(BigInteger upper, BigInteger lower, int part) {
        if (upper.signum() == 0) return part;
        BigInteger divisor = upper.gcd(lower);
        return (part == 0 ? upper : lower).divide(divisor).longValueExact();
    }

    public long thinks(int tongue, int part) {
        if (!in(tongue, 0, 7)) return LOST - 1;
        if (!in(part, 0, 1)) return LOST - 2;
        BigInteger all = BigInteger.ZERO;
        for (int each = 0; each < 8; each++) {
            all = all.add(BigInteger.valueOf(likenessOf(each, heard)));
        }
        return part(BigInteger.valueOf(likenessOf(tongue, heard)), all, part);
    }

    public int takes() {
        return choice(heard);
    }

    private static int rows(int length) {
        return (int) Math.pow(6, length);
    }

    private static int[] sayingAt(int row, int place) {
        int saying = row / rows(place) % 6;
        return new int[] {saying / 2, saying % 2};
    }

    private int choiceOfRow(int row) {
        if (choices == null) {
            choices = new int[rows(hears)];
            for (int each = 0; each < choices.length; each++) {
                List<int[]> sayings = new ArrayList<>();
                for (int place = 0; place < hears; place++) {
                    sayings.add(sayingAt(each, place));
                }
                choices[each] = choice(sayings);
            }
        }
        return choices[row];
    }

    private long[] stepRow(int book, int b, int from, int[] by) {
        long[] odds = new long[8];
        for (int row = 0; row < rows(hears); row++) {
            long product = 1;
            int rest = row;
            for (int place = 0; place < hears; place++) {
                int meaning = rest % 6 / 2;
                int form = rest % 2;
                rest /= 6;
                int teacher = place < b ? book : from;
                product *= by[meaning] * (form(teacher, meaning) == form ? 12 - slip : slip);
            }
            odds[choiceOfRow(row)] += product;
        }
        return odds;
    }

    private BigInteger whole(int[] by, int k) {
        return BigInteger.valueOf(12 * (by[0] + by[1] + by[2])).pow(hears * k);
    }

    public long step(int from, int to, int part) {
        return book(from, 0, from, to, part);
    }

    public long book(int book, int b, int from, int to, int part) {
        if (!in(book, 0, 7) || !in(from, 0, 7) || !in(to, 0, 7)) return LOST - 1;
        if (!in(b, 0, hears) || !in(part, 0, 1)) return LOST - 2;
        return part(BigInteger.valueOf(stepRow(book, b, from, weights)[to]), whole(weights, 1), part);
    }

    private long[][] steps() {
        long[][] steps = new long[8][];
        for (int from = 0; from < 8; from++) {
            steps[from] = stepRow(from, 0, from, weights);
        }
        return steps;
    }

    private BigInteger oddsAfter(long[][] steps, int from, int k, int to) {
        if (k == 0) return from == to ? BigInteger.ONE : BigInteger.ZERO;
        BigInteger odds = BigInteger.ZERO;
        for (int by = 0; by < 8; by++) {
            if (steps[from][by] != 0) {
                odds = odds.add(BigInteger.valueOf(steps[from][by]).multiply(oddsAfter(steps, by, k - 1, to)));
            }
        }
        return odds;
    }

    private int refusal(boolean known, boolean inside, int k) {
        if (!known) return -1;
        if (!inside || !in(k, 1, 4)) return -2;
        return hears * k > 8 ? -3 : 0;
    }

    public long after(int from, int k, int to, int part) {
        int refusal = refusal(in(from, 0, 7) && in(to, 0, 7), in(part, 0, 1), k);
        if (refusal != 0) return LOST + refusal;
        return part(oddsAfter(steps(), from, k, to), whole(weights, k), part);
    }

    private static boolean canCome(long[][] steps, int from, int to) {
        boolean[] seen = new boolean[8];
        List<Integer> open = new ArrayList<>(List.of(from));
        seen[from] = true;
        while (!open.isEmpty()) {
            int tongue = open.remove(0);
            for (int next = 0; next < 8; next++) {
                if (steps[tongue][next] > 0 && !seen[next]) {
                    seen[next] = true;
                    open.add(next);
                }
            }
        }
        return seen[to];
    }

    public int leads(int tongue) {
        if (!in(tongue, 0, 7)) return -1;
        long[][] steps = steps();
        int ones = 0;
        for (int to = 0; to < 8; to++) {
            if (canCome(steps, tongue, to)) ones += 1 << to;
        }
        return ones;
    }

    public int lasts(int what) {
        if (!in(what, 0, 2)) return -2;
        long[][] steps = steps();
        int lasting = 0;
        int kept = 0;
        List<Integer> heads = new ArrayList<>();
        for (int tongue = 0; tongue < 8; tongue++) {
            boolean comesRound = true;
            for (int to = 0; to < 8; to++) {
                if (canCome(steps, tongue, to) && !canCome(steps, to, tongue)) comesRound = false;
            }
            if (BigInteger.valueOf(steps[tongue][tongue]).equals(whole(weights, 1))) kept += 1 << tongue;
            if (!comesRound) continue;
            lasting += 1 << tongue;
            boolean isNew = true;
            for (int head : heads) {
                if (canCome(steps, tongue, head)) isNew = false;
            }
            if (isNew) heads.add(tongue);
        }
        return what == 0 ? lasting : what == 1 ? heads.size() : kept;
    }

    public long lives(int tongue, int meaning, int form, int k, int part) {
        int refusal = refusal(in(tongue, 0, 7) && in(meaning, 0, 2), in(form, 0, 1) && in(part, 0, 1), k);
        if (refusal != 0) return LOST + refusal;
        long[][] steps = steps();
        BigInteger odds = BigInteger.ZERO;
        for (int to = 0; to < 8; to++) {
            if (form(to, meaning) == form) odds = odds.add(oddsAfter(steps, tongue, k, to));
        }
        return part(odds, whole(weights, k), part);
    }

    public int often(int tongue, int meaning, int h) {
        if (!in(tongue, 0, 7) || !in(meaning, 0, 2)) return -1;
        if (!in(h, 0, 12)) return -2;
        for (int w = 1; w <= 4; w++) {
            int[] by = weights.clone();
            by[meaning] = w;
            long[] row = stepRow(tongue, 0, tongue, by);
            BigInteger odds = BigInteger.ZERO;
            for (int to = 0; to < 8; to++) {
                if (form(to, meaning) == form(tongue, meaning)) odds = odds.add(BigInteger.valueOf(row[to]));
            }
            BigInteger twelfths = odds.multiply(BigInteger.valueOf(12));
            if (twelfths.compareTo(whole(by, 1).multiply(BigInteger.valueOf(h))) >= 0) return w;
        }
        return -6;
    }

    /** Digits of a row are its meanings, the first one at the front; only rows that never go down. */
    public int chosen(int tongue, int i) {
        if (!in(tongue, 0, 7)) return -1;
        for (int length = 1; length <= 4; length++) {
            for (int row = 0; row < Math.pow(3, length); row++) {
                StringBuilder digits = new StringBuilder(Integer.toString(row, 3));
                while (digits.length() < length) digits.insert(0, '0');
                List<int[]> sayings = new ArrayList<>();
                boolean rises = true;
                for (int place = 0; place < length; place++) {
                    int meaning = digits.charAt(place) - '0';
                    rises = rises && (place == 0 || digits.charAt(place - 1) <= digits.charAt(place));
                    sayings.add(new int[] {meaning, form(tongue, meaning)});
                }
                if (!rises || choice(sayings) != tongue) continue;
                if (i == -1) return length;
                return in(i, 0, length - 1) ? sayings.get(i)[0] : -6;
            }
        }
        return -6;
    }

    public long back(int tongue, int k, int was, int part) {
        int refusal = refusal(in(tongue, 0, 7) && in(was, 0, 7), in(part, 0, 1), k);
        if (refusal != 0) return LOST + refusal;
        long[][] steps = steps();
        BigInteger all = BigInteger.ZERO;
        for (int each = 0; each < 8; each++) {
            all = all.add(oddsAfter(steps, each, k, tongue));
        }
        return part(oddsAfter(steps, was, k, tongue), all, part);
    }

    public int guess(int tongue, int k, int what) {
        int refusal = refusal(in(tongue, 0, 7), in(what, 0, 1), k);
        if (refusal != 0) return refusal;
        long[][] steps = steps();
        BigInteger most = BigInteger.ZERO;
        int best = -6;
        boolean deaf = true;
        for (int each = 0; each < 8; each++) {
            BigInteger odds = oddsAfter(steps, each, k, tongue);
            deaf = deaf && odds.equals(oddsAfter(steps, 0, k, tongue));
            if (odds.compareTo(most) > 0) {
                most = odds;
                best = each;
            }
        }
        return what == 0 ? best : deaf ? 1 : 0;
    }

    public int told(int what) {
        switch (what) {
            case 0: return slip;
            case 1: return hears;
            case 2: return learner;
            case 3: return signs.length();
            case 4: return heard.size();
            case 10: case 11: case 12: return weights[what - 10];
            default: return -2;
        }
    }
}
