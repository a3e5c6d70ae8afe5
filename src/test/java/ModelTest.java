/**
 * Long runs of calls, each answer against the model's, so that nothing the program carries along
 * can go astray unseen.
 */
public final class ModelTest {
    private static final int RUNS = 3000;
    private static final int CALLS = 512;
    private static final int[] FAR = {Integer.MIN_VALUE, -2, -1, 256, 100001, Integer.MAX_VALUE};
    private static final long[] FAR_SUMS = {Long.MIN_VALUE, -1, 100000000L, 100000001L, Long.MAX_VALUE};
    private static final Answers ANSWERS = new Answers("ModelTest");

    private static long seed;

    public static void main(String[] args) {
        for (int run = 0; run < RUNS; run++) {
            seed = 7919L * run + 1;
            oneRun(run);
        }
        ANSWERS.finish();
    }

    private static int pick(int bound) {
        seed = seed * 6364136223846793005L + 1442695040888963407L;
        return (int) ((seed >>> 33) % bound);
    }

    /** Mostly from least to most, now and then far outside. */
    private static int number(int least, int most) {
        return pick(25) == 0 ? FAR[pick(FAR.length)] : least + pick(most - least + 1);
    }

    private static long classSum() {
        return pick(25) == 0 ? FAR_SUMS[pick(FAR_SUMS.length)] : pick(pick(2) == 0 ? 60 : 40000);
    }

    /** Small weights and few places make ties and second uses frequent; some runs are made to fill up. */
    private static void oneRun(int run) {
        GradeRows x = new GradeRows();
        Model m = new Model();
        int rulesWanted = pick(4) == 0 ? 40 : 4;
        int dropShare = run % 3 == 0 ? 1 : 12;
        boolean dear = pick(5) == 0;
        for (int call = 0; call < CALLS; call++) {
            int kind = pick(100);
            if (kind < 4 || m.rules.size() < rulesWanted && kind < 20) {
                int weight = dear ? number(0, 10001) : number(0, 8);
                int extra = dear ? number(0, 100001) : number(0, 3);
                due(run, call, "rule", x.rule(weight, extra), m.rule(weight, extra));
            } else if (kind < 45) {
                change(run, call, x, m, dropShare);
            } else {
                ask(run, call, x, m);
            }
        }
    }

    private static void change(int run, int call, GradeRows x, Model m, int dropShare) {
        int kind = pick(30);
        if (kind < dropShare) {
            due(run, call, "drop", x.drop() ? 1 : 0, m.drop() ? 1 : 0);
        } else if (kind < 27) {
            int rule = number(0, m.rules.size());
            int place = pick(2) == 0 ? number(0, 2) : number(0, 256);
            int width = pick(2) == 0 ? number(1, 2) : number(0, 10);
            due(run, call, "used", x.used(rule, place, width), m.used(rule, place, width));
        } else {
            int depth = pick(2) == 0 ? number(1, 2) : number(0, 21);
            due(run, call, "guess", x.guess(depth), m.guess(depth));
        }
    }

    private static void ask(int run, int call, GradeRows x, Model m) {
        int n = number(-1, m.steps.size() + 1);
        int row = number(-1, m.kept.size());
        long low = classSum();
        long high = pick(3) == 0 ? classSum() : low + pick(30);
        int degree = number(0, 5);
        switch (pick(15)) {
            case 0: due(run, call, "cost", x.cost(n), m.cost(n)); break;
            case 1: due(run, call, "sum", x.sum(n), m.sum(n)); break;
            case 2: due(run, call, "cls", x.cls(low, high), m.cls(low, high)); break;
            case 3: due(run, call, "grade", x.grade(), m.grade()); break;
            case 4: due(run, call, "rank", x.rank(), m.rank()); break;
            case 5: due(run, call, "gap", x.gap(low), m.gap(low)); break;
            case 6: due(run, call, "stuck", x.stuck(n), m.stuck(n)); break;
            case 7: due(run, call, "run", x.run(), m.run()); break;
            case 8: due(run, call, "hardest", x.hardest(), m.hardest()); break;
            case 9: due(run, call, "go", x.go(n) ? 1 : 0, m.go(n) ? 1 : 0); break;
            case 10:
            case 11: due(run, call, "hint", x.hint(degree), m.hint(degree)); break;
            case 12:
                if (pick(3) == 0) {
                    due(run, call, "keep", x.keep(), m.keep());
                }
                break;
            case 13: due(run, call, "compare", x.compare(row), m.compare(row)); break;
            default: due(run, call, "same", x.same(row) ? 1 : 0, m.same(row) ? 1 : 0); break;
        }
    }

    private static void due(int run, int call, String name, long got, long want) {
        ANSWERS.due("run " + run + " call " + call + " " + name, got, want);
    }
}
