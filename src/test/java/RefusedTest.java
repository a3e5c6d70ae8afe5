import java.util.function.Supplier;
import java.util.function.ToLongFunction;

/**
 * Refused calls in an empty, an ordinary and a full object: what each answers, and that
 * all later calls answer as if it had not been made.
 */
public final class RefusedTest {
    private static final Answers ANSWERS = new Answers("RefusedTest");
    private static final int[] FAR = {Integer.MIN_VALUE, Integer.MAX_VALUE, 1 << 16, -(1 << 16)};
    private static final long[] FAR_SUMS = {
        Long.MIN_VALUE, Long.MIN_VALUE + 5, -(1L << 32), Integer.MIN_VALUE
    };
    private static final long MOST_SUM = 100000000L;

    private final String state;
    private final Supplier<GradeRows> maker;
    private final int rules;
    private final int steps;
    private final int rows;

    private RefusedTest(String state, Supplier<GradeRows> maker, int rules, int steps, int rows) {
        this.state = state;
        this.maker = maker;
        this.rules = rules;
        this.steps = steps;
        this.rows = rows;
    }

    public static void main(String[] args) {
        RefusedTest empty = new RefusedTest("empty", GradeRows::new, 0, 0, 0);
        RefusedTest ordinary = new RefusedTest("ordinary", RefusedTest::ordinary, 3, 6, 2);
        RefusedTest full = new RefusedTest("full", RefusedTest::full, 40, 200, 10);
        empty.whatNoStateTakes();
        ordinary.whatNoStateTakes();
        full.whatNoStateTakes();
        empty.whatTheEmptyOneRefuses();
        ordinary.whatStandsInTheWay();
        ordinary.behindTheLastStep();
        full.whatTheFullOneRefuses();
        ANSWERS.finish();
    }

    private static GradeRows ordinary() {
        GradeRows x = new GradeRows();
        x.rule(4, 0);
        x.rule(0, 50);
        x.rule(3, 7);
        x.used(0, 17, 1);
        x.guess(2);
        x.keep();
        x.guess(1);
        x.used(1, 200, 9);
        x.keep();
        x.used(0, 30, 1);
        x.guess(1);
        x.cls(0, 1000);
        x.cls(4000, 7500);
        x.go(3);
        return x;
    }

    /** As many rules, steps, classes and rows as there may be: 271 calls. */
    private static GradeRows full() {
        GradeRows x = new GradeRows();
        for (int i = 0; i < 40; i++) {
            x.rule(4, i);
        }
        for (int i = 0; i < 19; i++) {
            x.cls(20 * i, 20 * i + 9);
        }
        x.cls(400, 49999);
        for (int i = 0; i < 200; i++) {
            int number = i % 10 == 9 ? x.guess(1) : x.used(i % 39, i, 1 + i % 9);
            if (number % 20 == 0) {
                x.keep();
            }
        }
        x.go(199);
        return x;
    }

    private void refused(String call, long want, ToLongFunction<GradeRows> made) {
        GradeRows tried = maker.get();
        String name = state + ", " + call;
        ANSWERS.due(name, made.applyAsLong(tried), want);
        ANSWERS.due(name + " is refused", View.of(tried), View.of(maker.get()));
    }

    private static long number(boolean answer) {
        return answer ? 1 : 0;
    }

    private void whatNoStateTakes() {
        refusedRules();
        refusedUses();
        for (int depth : with(FAR, 0, -1, 21)) {
            refused("guess " + depth, -1, x -> x.guess(depth));
        }
        for (int step : with(FAR, -1, steps)) {
            refused("cost " + step, -1, x -> x.cost(step));
        }
        for (int n : new int[] {-1, -2, Integer.MIN_VALUE}) {
            refused("sum " + n, -1, x -> x.sum(n));
        }
        refusedSums();
        for (int k : with(FAR, -1, 200)) {
            refused("stuck " + k, -1, x -> x.stuck(k));
        }
        for (int step : with(FAR, -1, steps + 1)) {
            refused("go " + step, 0, x -> number(x.go(step)));
        }
        for (int degree : with(FAR, 0, -1, 5)) {
            refused("hint " + degree, -1, x -> x.hint(degree));
        }
        for (int row : with(FAR, -1, rows, 10)) {
            refused("compare " + row, -2, x -> x.compare(row));
            refused("same " + row, 0, x -> number(x.same(row)));
        }
    }

    private void refusedRules() {
        for (int weight : with(FAR, -1, 10001)) {
            refused("weight " + weight, -1, x -> x.rule(weight, 0));
        }
        for (int extra : with(FAR, -1, 100001)) {
            if (extra != 1 << 16) {
                refused("extra " + extra, -1, x -> x.rule(0, extra));
            }
        }
        refused("weight and extra", -1, x -> x.rule(-1, 100001));
    }

    private void refusedUses() {
        for (int rule : with(FAR, -1, rules, 40)) {
            refused("used rule " + rule, -1, x -> x.used(rule, 0, 1));
        }
        for (int place : with(FAR, -1, 256)) {
            refused("place " + place, -1, x -> x.used(0, place, 1));
        }
        for (int width : with(FAR, 0, -1, 10)) {
            refused("width " + width, -1, x -> x.used(0, 0, width));
        }
    }

    private void refusedSums() {
        for (long low : FAR_SUMS) {
            refused("class from " + low, -1, x -> x.cls(low, MOST_SUM));
            refused("class to " + low, -1, x -> x.cls(50000, low));
            refused("gap " + low, -1, x -> x.gap(low));
        }
        refused("class from -1", -1, x -> x.cls(-1, MOST_SUM));
        refused("class -1 alone", -1, x -> x.cls(-1, -1));
        refused("class turned round", -1, x -> x.cls(50001, 50000));
        refused("class too high", -1, x -> x.cls(50000, MOST_SUM + 1));
        refused("class too high alone", -1, x -> x.cls(MOST_SUM + 1, MOST_SUM + 1));
        refused("class far above", -1, x -> x.cls(Long.MAX_VALUE, Long.MAX_VALUE));
        refused("class beyond int", -1, x -> x.cls(50000, (1L << 32) + 60000));
        refused("gap -1", -1, x -> x.gap(-1));
    }

    private void whatTheEmptyOneRefuses() {
        refused("drop", 0, x -> number(x.drop()));
        for (int degree = 1; degree <= 4; degree++) {
            int asked = degree;
            refused("hint " + degree, -1, x -> x.hint(asked));
        }
        refused("hardest", -1, GradeRows::hardest);
        refused("grade", -1, GradeRows::grade);
        refused("rank", -1, GradeRows::rank);
        refused("stuck", -1, x -> x.stuck(0));
    }

    private void whatStandsInTheWay() {
        refused("class at a high", -1, x -> x.cls(1000, 1001));
        refused("class at a low", -1, x -> x.cls(1001, 4000));
        refused("class inside", -1, x -> x.cls(5000, 5000));
        refused("class round one", -1, x -> x.cls(1001, 8000));
        refused("class round all", -1, x -> x.cls(0, MOST_SUM));
    }

    private void behindTheLastStep() {
        for (int degree = 1; degree <= 4; degree++) {
            int asked = degree;
            GradeRows tried = maker.get();
            GradeRows plain = maker.get();
            tried.go(steps);
            plain.go(steps);
            ANSWERS.due("behind the last, hint " + degree, tried.hint(asked), -1);
            ANSWERS.due("behind the last, hint " + degree + " is refused", View.of(tried), View.of(plain));
        }
    }

    private void whatTheFullOneRefuses() {
        refused("the 41st rule", -1, x -> x.rule(1, 1));
        refused("the 201st step, by a rule used before", -1, x -> x.used(0, 0, 1));
        refused("the 201st step, by an unused rule", -1, x -> x.used(39, 0, 1));
        refused("the 201st step, a guess", -1, x -> x.guess(1));
        refused("the 21st class", -1, x -> x.cls(50000, 60000));
        refused("the 11th row", -1, GradeRows::keep);
    }

    private static int[] with(int[] some, int... more) {
        int[] all = new int[some.length + more.length];
        System.arraycopy(some, 0, all, 0, some.length);
        System.arraycopy(more, 0, all, some.length, more.length);
        return all;
    }
}
