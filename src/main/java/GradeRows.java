import java.util.Arrays;

/** Grades of puzzles by how they are solved; DOC.md's promises say what each call answers. */
public final class GradeRows {
    private static final int NONE = -1;
    private static final int MOST_RULES = 40;
    private static final int MOST_WEIGHT = 10000;
    private static final int MOST_EXTRA = 100000;
    private static final int MOST_STEPS = 200;
    private static final int PLACES = 256;
    private static final int MOST_WIDTH = 9;
    private static final int MOST_DEPTH = 20;
    private static final int MOST_CLASSES = 20;
    private static final long MOST_CLASS_SUM = 100000000L;
    private static final int MOST_KEPT = 10;

    private static final int HINT_REGION = 1;
    private static final int HINT_PLACE = 2;
    private static final int HINT_RULE = 3;
    private static final int HINT_WIDTH = 4;
    private static final int PLACES_IN_REGION = 16;
    private static final int HINT_OF_GUESS = -2;
    private static final int NO_ROW = -2;

    private final Rules rules;
    private final Steps steps;
    private final Classes classes;
    private final Row[] kept;
    private int keptCount;
    private int cursor;

    public GradeRows() {
        rules = new Rules();
        steps = new Steps();
        classes = new Classes();
        kept = new Row[MOST_KEPT];
        keptCount = 0;
        cursor = 0;
    }

    public int rule(int weight, int extra) {
        if (!isWithin(weight, 0, MOST_WEIGHT) || !isWithin(extra, 0, MOST_EXTRA)) {
            return NONE;
        }
        return rules.add(weight, extra);
    }

    public int used(int rule, int place, int width) {
        if (!rules.has(rule) || !isWithin(place, 0, PLACES - 1) || !isWithin(width, 1, MOST_WIDTH)) {
            return NONE;
        }
        if (steps.isFull()) {
            return NONE;
        }
        int price = rules.priceOfNext(rule, width);
        rules.noteStep(rule, price);
        return steps.add(rule, place, width, price);
    }

    public int guess(int depth) {
        if (!isWithin(depth, 1, MOST_DEPTH)) {
            return NONE;
        }
        return steps.addGuess(depth);
    }

    public boolean drop() {
        int last = steps.count() - 1;
        if (!steps.has(last)) {
            return false;
        }
        rules.forgetStep(steps.ruleAt(last), steps.priceAt(last));
        steps.removeLast();
        cursor = Math.min(cursor, last);
        return true;
    }

    public long cost(int step) {
        return steps.has(step) ? steps.priceAt(step) : NONE;
    }

    public long sum(int n) {
        return n < 0 ? NONE : steps.totalOfFirst(n);
    }

    public int cls(long low, long high) {
        if (low < 0 || high < low || high > MOST_CLASS_SUM) {
            return NONE;
        }
        return classes.add(low, high);
    }

    public int grade() {
        return classes.classOf(steps.total());
    }

    public int rank() {
        long total = steps.total();
        return classes.classOf(total) == NONE ? NONE : classes.countBelow(total);
    }

    public long gap(long from) {
        return from < 0 ? NONE : classes.firstFree(from);
    }

    public int stuck(int k) {
        return k < 0 ? NONE : steps.narrowPlace(k);
    }

    public int run() {
        return steps.longestClimb();
    }

    public int hardest() {
        return rules.dearest();
    }

    public boolean go(int step) {
        if (!isWithin(step, 0, steps.count())) {
            return false;
        }
        cursor = step;
        return true;
    }

    public int hint(int degree) {
        if (!isWithin(degree, HINT_REGION, HINT_WIDTH) || !steps.has(cursor)) {
            return NONE;
        }
        int answer = steps.isGuess(cursor) ? hintOfGuess(degree) : hintOfRuleStep(degree);
        if (degree == HINT_WIDTH) {
            cursor++;
        }
        return answer;
    }

    public int keep() {
        if (keptCount >= MOST_KEPT) {
            return NONE;
        }
        kept[keptCount] = steps.toRow();
        keptCount++;
        return keptCount - 1;
    }

    public int compare(int row) {
        Row other = keptAt(row);
        return other == null ? NO_ROW : steps.orderAgainst(other);
    }

    public boolean same(int row) {
        Row other = keptAt(row);
        return other != null && steps.hasStepsOf(other);
    }

    private int hintOfGuess(int degree) {
        return degree == HINT_WIDTH ? steps.widthAt(cursor) : HINT_OF_GUESS;
    }

    private int hintOfRuleStep(int degree) {
        switch (degree) {
            case HINT_REGION:
                return steps.placeAt(cursor) / PLACES_IN_REGION;
            case HINT_PLACE:
                return steps.placeAt(cursor);
            case HINT_RULE:
                return steps.ruleAt(cursor);
            default:
                return steps.widthAt(cursor);
        }
    }

    private Row keptAt(int row) {
        return row >= 0 && row < keptCount ? kept[row] : null;
    }

    private static boolean isWithin(int number, int least, int most) {
        return number >= least && number <= most;
    }

    // Long.compare promises only a sign, the document asks for -1, 0 and 1.
    private static int order(long left, long right) {
        return left < right ? -1 : left > right ? 1 : 0;
    }

    /** The rules, and what the steps of each cost together. */
    private static final class Rules {
        private static final int WIDTH_BASE = 12;
        private static final int WIDTH_SHARE = 4;

        private final int[] weights = new int[MOST_RULES];
        private final int[] extras = new int[MOST_RULES];
        private final int[] uses = new int[MOST_RULES];
        private final long[] spent = new long[MOST_RULES];
        private int count = 0;

        boolean has(int number) {
            return number >= 0 && number < count;
        }

        int add(int weight, int extra) {
            if (count >= MOST_RULES) {
                return NONE;
            }
            weights[count] = weight;
            extras[count] = extra;
            count++;
            return count - 1;
        }

        int priceOfNext(int number, int width) {
            if (!has(number)) {
                return 0;
            }
            int price = weights[number] * (WIDTH_BASE - width) / WIDTH_SHARE;
            return uses[number] == 0 ? price + extras[number] : price;
        }

        void noteStep(int number, int price) {
            if (has(number)) {
                uses[number]++;
                spent[number] += price;
            }
        }

        /** A guess is by no rule, so that its number is passed over here. */
        void forgetStep(int number, int price) {
            if (has(number)) {
                uses[number]--;
                spent[number] -= price;
            }
        }

        int dearest() {
            int best = NONE;
            long most = -1;
            for (int i = 0; i < count; i++) {
                if (uses[i] > 0 && spent[i] > most) {
                    best = i;
                    most = spent[i];
                }
            }
            return best;
        }
    }

    /**
     * The steps. What a step costs depends on steps before it alone, and only the last one ever goes:
     * so what is found when a step comes holds for as long as it stays.
     */
    private static final class Steps {
        private static final int GUESS = -1;
        private static final int GUESS_PRICE = 1000;
        private static final int WIDTH_CODES = 32;

        private final int[] ruleOf = new int[MOST_STEPS];
        private final int[] placeOf = new int[MOST_STEPS];
        /** Of a guess: its depth. */
        private final int[] widthOf = new int[MOST_STEPS];
        private final int[] priceOf = new int[MOST_STEPS];
        /** Whether no step before it was of width 1 at the same place, and it is. */
        private final boolean[] isFirstNarrow = new boolean[MOST_STEPS];
        /** At n: what the first n steps cost. */
        private final long[] totals = new long[MOST_STEPS + 1];
        /** Kept in order at each change, so that rows are compared without sorting. */
        private final Sorted prices = new Sorted(new int[MOST_STEPS], 0);
        private final Sorted codes = new Sorted(new int[MOST_STEPS], 0);
        private int count = 0;

        int count() {
            return count;
        }

        boolean isFull() {
            return count >= MOST_STEPS;
        }

        boolean has(int step) {
            return step >= 0 && step < count;
        }

        boolean isGuess(int step) {
            return has(step) && ruleOf[step] == GUESS;
        }

        int ruleAt(int step) {
            return has(step) ? ruleOf[step] : NONE;
        }

        int placeAt(int step) {
            return has(step) ? placeOf[step] : NONE;
        }

        int widthAt(int step) {
            return has(step) ? widthOf[step] : NONE;
        }

        int priceAt(int step) {
            return has(step) ? priceOf[step] : NONE;
        }

        int addGuess(int depth) {
            int price = GUESS_PRICE * depth;
            return add(GUESS, 0, depth, isGuess(count - 1) ? 2 * price : price);
        }

        int add(int rule, int place, int width, int price) {
            if (isFull()) {
                return NONE;
            }
            ruleOf[count] = rule;
            placeOf[count] = place;
            widthOf[count] = width;
            priceOf[count] = price;
            isFirstNarrow[count] = rule != GUESS && width == 1 && !wasNarrowAt(place);
            totals[count + 1] = totals[count] + price;
            prices.put(price);
            codes.put(codeOf(rule, place, width));
            count++;
            return count - 1;
        }

        void removeLast() {
            if (count > 0) {
                count--;
                prices.take(priceOf[count]);
                codes.take(codeOf(ruleOf[count], placeOf[count], widthOf[count]));
            }
        }

        long total() {
            return totals[count];
        }

        long totalOfFirst(int n) {
            return n >= 0 && n < count ? totals[n] : total();
        }

        int narrowPlace(int k) {
            int passed = 0;
            for (int i = 0; i < count; i++) {
                if (isFirstNarrow[i]) {
                    if (passed == k) {
                        return placeOf[i];
                    }
                    passed++;
                }
            }
            return NONE;
        }

        int longestClimb() {
            int longest = 0;
            int length = 0;
            for (int i = 0; i < count; i++) {
                length = i > 0 && priceOf[i] >= priceOf[i - 1] ? length + 1 : 1;
                longest = Math.max(longest, length);
            }
            return longest;
        }

        Row toRow() {
            return new Row(total(), prices.copy(), codes.copy());
        }

        int orderAgainst(Row row) {
            int bySums = order(total(), row.total);
            if (bySums != 0) {
                return bySums;
            }
            int byCounts = order(count, row.prices.size());
            return byCounts != 0 ? byCounts : prices.orderFromGreatest(row.prices);
        }

        boolean hasStepsOf(Row row) {
            return codes.size() == row.codes.size() && codes.orderFromGreatest(row.codes) == 0;
        }

        private boolean wasNarrowAt(int place) {
            for (int i = 0; i < count; i++) {
                if (isFirstNarrow[i] && placeOf[i] == place) {
                    return true;
                }
            }
            return false;
        }

        /** One number for each kind of step; a guess's is below 0, as its rule is. */
        private static int codeOf(int rule, int place, int width) {
            return (rule * PLACES + place) * WIDTH_CODES + width;
        }
    }

    /** Kept steps: only what comparing asks for. */
    private static final class Row {
        private final long total;
        private final Sorted prices;
        private final Sorted codes;

        Row(long total, Sorted prices, Sorted codes) {
            this.total = total;
            this.prices = prices;
            this.codes = codes;
        }
    }

    /** Numbers from the least to the greatest, as many as its array has room for. */
    private static final class Sorted {
        private final int[] items;
        private int size;

        Sorted(int[] items, int size) {
            this.items = items;
            this.size = size;
        }

        int size() {
            return size;
        }

        Sorted copy() {
            return new Sorted(Arrays.copyOf(items, size), size);
        }

        void put(int item) {
            if (size >= items.length) {
                return;
            }
            int at = size;
            while (at > 0 && items[at - 1] > item) {
                items[at] = items[at - 1];
                at--;
            }
            items[at] = item;
            size++;
        }

        void take(int item) {
            int at = 0;
            while (at < size && items[at] != item) {
                at++;
            }
            if (at >= size) {
                return;
            }
            for (int i = at + 1; i < size; i++) {
                items[i - 1] = items[i];
            }
            size--;
        }

        /** By the greatest numbers, then by those next to them, as far as both go. */
        int orderFromGreatest(Sorted other) {
            int shared = Math.min(size, other.size);
            for (int i = 1; i <= shared; i++) {
                int here = order(items[size - i], other.items[other.size - i]);
                if (here != 0) {
                    return here;
                }
            }
            return 0;
        }
    }

    /** The classes of sums; none has a sum of another. */
    private static final class Classes {
        private final long[] lows = new long[MOST_CLASSES];
        private final long[] highs = new long[MOST_CLASSES];
        private int count = 0;

        int add(long low, long high) {
            if (count >= MOST_CLASSES || hasOneOf(low, high)) {
                return NONE;
            }
            lows[count] = low;
            highs[count] = high;
            count++;
            return count - 1;
        }

        int classOf(long total) {
            for (int i = 0; i < count; i++) {
                if (lows[i] <= total && total <= highs[i]) {
                    return i;
                }
            }
            return NONE;
        }

        int countBelow(long total) {
            int below = 0;
            for (int i = 0; i < count; i++) {
                if (highs[i] < total) {
                    below++;
                }
            }
            return below;
        }

        long firstFree(long from) {
            long free = from;
            // Each turn leaves one class behind for good, so there are no more turns than classes.
            for (int turn = 0; turn < count; turn++) {
                int holder = classOf(free);
                if (holder < 0) {
                    return free;
                }
                free = highs[holder] + 1;
            }
            return free;
        }

        private boolean hasOneOf(long low, long high) {
            for (int i = 0; i < count; i++) {
                if (lows[i] <= high && low <= highs[i]) {
                    return true;
                }
            }
            return false;
        }
    }
}
