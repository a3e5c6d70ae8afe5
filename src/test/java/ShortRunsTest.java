/**
 * Every short run of calls out of a few that change an object, and every cost: where ModelTest
 * picks, nothing is left out here.
 */
public final class ShortRunsTest {
    private static final int LONGEST = 5;
    private static final int KINDS = 10;
    private static final int CLASS_CALLS = 3;
    private static final int MOST_SUM = 5;
    private static final Answers ANSWERS = new Answers("ShortRunsTest");

    public static void main(String[] args) {
        int runs = 1;
        for (int length = 0; length <= LONGEST; length++) {
            for (int run = 0; run < runs; run++) {
                stepRun(run, length);
            }
            runs *= KINDS;
        }
        classRuns();
        everyCostOfARule();
        everyCostOfAGuess();
        ANSWERS.finish();
    }

    /** The digits of the run's number are its calls. */
    private static void stepRun(int run, int length) {
        GradeRows x = new GradeRows();
        Model m = new Model();
        rule(x, m, 4, 3);
        rule(x, m, 1, 0);
        StringBuilder told = new StringBuilder("steps");
        int rest = run;
        for (int i = 0; i < length; i++) {
            int kind = rest % KINDS;
            told.append(' ').append(kind);
            due(told + ":", change(x, kind), change(m, kind));
            rest /= KINDS;
        }
        lookAtSteps(told + ", then ", x, m);
        lookAtRows(told + ", then ", x, m);
        lookAtTheCursor(told + ", then ", x, m);
    }

    private static void rule(GradeRows x, Model m, int weight, int extra) {
        due("rule " + weight + " " + extra, x.rule(weight, extra), m.rule(weight, extra));
    }

    private static long change(GradeRows x, int kind) {
        switch (kind) {
            case 0: return x.used(0, 0, 1);
            case 1: return x.used(0, 16, 1);
            case 2: return x.used(0, 0, 2);
            case 3: return x.used(1, 0, 1);
            case 4: return x.guess(1);
            case 5: return x.guess(2);
            case 6: return x.drop() ? 1 : 0;
            case 7: return x.keep();
            case 8: return x.hint(4);
            default: return x.go(2) ? 1 : 0;
        }
    }

    private static long change(Model m, int kind) {
        switch (kind) {
            case 0: return m.used(0, 0, 1);
            case 1: return m.used(0, 16, 1);
            case 2: return m.used(0, 0, 2);
            case 3: return m.used(1, 0, 1);
            case 4: return m.guess(1);
            case 5: return m.guess(2);
            case 6: return m.drop() ? 1 : 0;
            case 7: return m.keep();
            case 8: return m.hint(4);
            default: return m.go(2) ? 1 : 0;
        }
    }

    private static void lookAtSteps(String told, GradeRows x, Model m) {
        for (int n = -1; n <= LONGEST + 1; n++) {
            due(told + "cost " + n, x.cost(n), m.cost(n));
            due(told + "sum " + n, x.sum(n), m.sum(n));
        }
        for (int k = -1; k <= 2; k++) {
            due(told + "stuck " + k, x.stuck(k), m.stuck(k));
        }
        due(told + "run", x.run(), m.run());
        due(told + "hardest", x.hardest(), m.hardest());
    }

    private static void lookAtRows(String told, GradeRows x, Model m) {
        for (int row = -1; row <= LONGEST; row++) {
            due(told + "compare " + row, x.compare(row), m.compare(row));
            due(told + "same " + row, x.same(row) ? 1 : 0, m.same(row) ? 1 : 0);
        }
    }

    /** A step added last shows where the cursor is when it was behind the others. */
    private static void lookAtTheCursor(String told, GradeRows x, Model m) {
        due(told + "used", x.used(1, 255, 9), m.used(1, 255, 9));
        for (int degree = 0; degree <= 5; degree++) {
            due(told + "hint " + degree, x.hint(degree), m.hint(degree));
        }
        due(told + "the next hint", x.hint(2), m.hint(2));
    }

    /** Each low and high from -1 to 5, three classes of them one after the other. */
    private static void classRuns() {
        int ends = MOST_SUM + 2;
        int kinds = ends * ends;
        for (int run = 0; run < kinds * kinds * kinds; run++) {
            GradeRows x = new GradeRows();
            Model m = new Model();
            int rest = run;
            for (int i = 0; i < CLASS_CALLS; i++) {
                int low = rest % ends - 1;
                int high = rest / ends % ends - 1;
                due("classes " + run + ": cls " + low + " " + high, x.cls(low, high), m.cls(low, high));
                rest /= kinds;
            }
            lookAtClasses("classes " + run + ", then ", x, m);
        }
    }

    /** A step of rule 0 and width 8 costs 1. */
    private static void lookAtClasses(String told, GradeRows x, Model m) {
        rule(x, m, 1, 0);
        for (int sum = 0; sum <= MOST_SUM + 1; sum++) {
            due(told + "gap " + sum, x.gap(sum), m.gap(sum));
            due(told + "grade of " + sum, x.grade(), m.grade());
            due(told + "rank of " + sum, x.rank(), m.rank());
            due(told + "used", x.used(0, 0, 8), m.used(0, 0, 8));
        }
    }

    private static void everyCostOfARule() {
        int rulesAtOnce = 20;
        for (int from = 0; from <= 10000; from += rulesAtOnce) {
            GradeRows x = new GradeRows();
            for (int rule = 0; rule < rulesAtOnce && from + rule <= 10000; rule++) {
                x.rule(from + rule, 100000 - from - rule);
                for (int width = 1; width <= 9; width++) {
                    due("weight " + (from + rule) + " width " + width,
                        x.cost(x.used(rule, 0, width)), costByHand(from + rule, width));
                }
            }
        }
    }

    /** By adding up and by bits, so as not to be the program's own formula; width 1 is the first use. */
    private static long costByHand(int weight, int width) {
        long left = 0;
        for (int i = width; i < 12; i++) {
            left += weight;
        }
        long cost = (left - (left & 3)) >> 2;
        return width == 1 ? cost + 100000 - weight : cost;
    }

    private static void everyCostOfAGuess() {
        for (int depth = 1; depth <= 20; depth++) {
            GradeRows x = new GradeRows();
            due("guess " + depth, x.cost(x.guess(depth)), depth * 1000L);
            for (int next = 1; next <= 20; next++) {
                due("guess " + next + " behind", x.cost(x.guess(next)), next * 2000L);
            }
        }
    }

    private static void due(String call, long got, long want) {
        ANSWERS.due(call, got, want);
    }
}
