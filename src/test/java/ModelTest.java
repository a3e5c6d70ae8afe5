import java.util.ArrayList;
import java.util.Collections;
import java.util.List;

/**
 * Long runs of calls, each answer against a model that works all out anew from the list of steps
 * by the document's words, so that nothing the program carries along can go astray unseen.
 */
public final class ModelTest {
    private static final int RUNS = 3000;
    private static final int CALLS = 512;
    private static final int[] FAR = {Integer.MIN_VALUE, -2, -1, 256, 100001, Integer.MAX_VALUE};
    private static final long[] FAR_SUMS = {Long.MIN_VALUE, -1, 100000000L, 100000001L, Long.MAX_VALUE};
    private static final Answers ANSWERS = new Answers("ModelTest");

    private static long seed;

    public static void main(String[] args) {
        for (int run = 0; run < RUNS; run++) {
            seed = 7919L * run + 1;
            oneRun(run);
        }
        ANSWERS.finish();
    }

    private static int pick(int bound) {
        seed = seed * 6364136223846793005L + 1442695040888963407L;
        return (int) ((seed >>> 33) % bound);
    }

    /** Mostly from least to most, now and then far outside. */
    private static int number(int least, int most) {
        return pick(25) == 0 ? FAR[pick(FAR.length)] : least + pick(most - least + 1);
    }

    private static long classSum() {
        return pick(25) == 0 ? FAR_SUMS[pick(FAR_SUMS.length)] : pick(pick(2) == 0 ? 60 : 40000);
    }

    /** Small weights and few places make ties and second uses frequent; some runs are made to fill up. */
    private static void oneRun(int run) {
        GradeRows x = new GradeRows();
        Model m = new Model();
        int rulesWanted = pick(4) == 0 ? 40 : 4;
        int dropShare = run % 3 == 0 ? 1 : 12;
        boolean dear = pick(5) == 0;
        for (int call = 0; call < CALLS; call++) {
            int kind = pick(100);
            if (kind < 4 || m.rules.size() < rulesWanted && kind < 20) {
                int weight = dear ? number(0, 10001) : number(0, 8);
                int extra = dear ? number(0, 100001) : number(0, 3);
                due(run, call, "rule", x.rule(weight, extra), m.rule(weight, extra));
            } else if (kind < 45) {
                change(run, call, x, m, dropShare);
            } else {
                ask(run, call, x, m);
            }
        }
    }

    private static void change(int run, int call, GradeRows x, Model m, int dropShare) {
        int kind = pick(30);
        if (kind < dropShare) {
            due(run, call, "drop", x.drop() ? 1 : 0, m.drop() ? 1 : 0);
        } else if (kind < 27) {
            int rule = number(0, m.rules.size());
            int place = pick(2) == 0 ? number(0, 2) : number(0, 256);
            int width = pick(2) == 0 ? number(1, 2) : number(0, 10);
            due(run, call, "used", x.used(rule, place, width), m.used(rule, place, width));
        } else {
            int depth = pick(2) == 0 ? number(1, 2) : number(0, 21);
            due(run, call, "guess", x.guess(depth), m.guess(depth));
        }
    }

    private static void ask(int run, int call, GradeRows x, Model m) {
        int n = number(-1, m.steps.size() + 1);
        int row = number(-1, m.kept.size());
        long low = classSum();
        long high = pick(3) == 0 ? classSum() : low + pick(30);
        int degree = number(0, 5);
        switch (pick(15)) {
            case 0: due(run, call, "cost", x.cost(n), m.cost(n)); break;
            case 1: due(run, call, "sum", x.sum(n), m.sum(n)); break;
            case 2: due(run, call, "cls", x.cls(low, high), m.cls(low, high)); break;
            case 3: due(run, call, "grade", x.grade(), m.grade()); break;
            case 4: due(run, call, "rank", x.rank(), m.rank()); break;
            case 5: due(run, call, "gap", x.gap(low), m.gap(low)); break;
            case 6: due(run, call, "stuck", x.stuck(n), m.stuck(n)); break;
            case 7: due(run, call, "run", x.run(), m.run()); break;
            case 8: due(run, call, "hardest", x.hardest(), m.hardest()); break;
            case 9: due(run, call, "go", x.go(n) ? 1 : 0, m.go(n) ? 1 : 0); break;
            case 10:
            case 11: due(run, call, "hint", x.hint(degree), m.hint(degree)); break;
            case 12:
                if (pick(3) == 0) {
                    due(run, call, "keep", x.keep(), m.keep());
                }
                break;
            case 13: due(run, call, "compare", x.compare(row), m.compare(row)); break;
            default: due(run, call, "same", x.same(row) ? 1 : 0, m.same(row) ? 1 : 0); break;
        }
    }

    private static void due(int run, int call, String name, long got, long want) {
        ANSWERS.due("run " + run + " call " + call + " " + name, got, want);
    }

    private record Rule(int weight, int extra) { }

    private record Step(boolean isGuess, int rule, int place, int size) { }

    private record Span(long low, long high) { }

    private static final class Model {
        final List<Rule> rules = new ArrayList<>();
        final List<Step> steps = new ArrayList<>();
        final List<Span> classes = new ArrayList<>();
        final List<List<Step>> kept = new ArrayList<>();
        int cursor = 0;

        int rule(int weight, int extra) {
            if (weight < 0 || weight > 10000 || extra < 0 || extra > 100000 || rules.size() == 40) {
                return -1;
            }
            rules.add(new Rule(weight, extra));
            return rules.size() - 1;
        }

        int used(int rule, int place, int width) {
            boolean wrong = rule < 0 || rule >= rules.size() || place < 0 || place > 255 || width < 1 || width > 9;
            return wrong ? -1 : add(new Step(false, rule, place, width));
        }

        int guess(int depth) {
            return depth < 1 || depth > 20 ? -1 : add(new Step(true, -1, -1, depth));
        }

        int add(Step step) {
            if (steps.size() == 200) {
                return -1;
            }
            steps.add(step);
            return steps.size() - 1;
        }

        boolean drop() {
            if (steps.isEmpty()) {
                return false;
            }
            int last = steps.size() - 1;
            steps.remove(last);
            if (cursor > last) {
                cursor = last;
            }
            return true;
        }

        List<Long> costs(List<Step> row) {
            List<Long> all = new ArrayList<>();
            for (int i = 0; i < row.size(); i++) {
                all.add(costIn(row, i));
            }
            return all;
        }

        long costIn(List<Step> row, int at) {
            Step step = row.get(at);
            if (step.isGuess()) {
                return 1000L * step.size() * (at > 0 && row.get(at - 1).isGuess() ? 2 : 1);
            }
            Rule rule = rules.get(step.rule());
            boolean first = true;
            for (Step before : row.subList(0, at)) {
                first &= before.isGuess() || before.rule() != step.rule();
            }
            return rule.weight() * (12 - step.size()) / 4 + (first ? rule.extra() : 0);
        }

        long total(List<Step> row) {
            return costs(row).stream().mapToLong(Long::longValue).sum();
        }

        long cost(int step) {
            return step < 0 || step >= steps.size() ? -1 : costIn(steps, step);
        }

        long sum(int n) {
            return n < 0 ? -1 : total(steps.subList(0, Math.min(n, steps.size())));
        }

        int cls(long low, long high) {
            boolean taken = classes.stream().anyMatch(c -> !(high < c.low() || c.high() < low));
            if (low < 0 || high < low || high > 100000000L || taken || classes.size() == 20) {
                return -1;
            }
            classes.add(new Span(low, high));
            return classes.size() - 1;
        }

        int classOf(long sum) {
            for (int i = 0; i < classes.size(); i++) {
                if (classes.get(i).low() <= sum && sum <= classes.get(i).high()) {
                    return i;
                }
            }
            return -1;
        }

        int grade() {
            return classOf(total(steps));
        }

        int rank() {
            long sum = total(steps);
            return grade() == -1 ? -1 : (int) classes.stream().filter(c -> c.high() < sum).count();
        }

        /** The answer is from itself or right above a class. */
        long gap(long from) {
            if (from < 0) {
                return -1;
            }
            List<Long> candidates = new ArrayList<>(List.of(from));
            classes.forEach(c -> candidates.add(c.high() + 1));
            return candidates.stream().filter(s -> s >= from && classOf(s) == -1).min(Long::compare).orElseThrow();
        }

        int stuck(int k) {
            List<Integer> places = steps.stream().filter(s -> !s.isGuess() && s.size() == 1)
                .map(Step::place).distinct().toList();
            return k < 0 || k >= places.size() ? -1 : places.get(k);
        }

        int run() {
            List<Long> all = costs(steps);
            int longest = 0;
            for (int from = 0; from < all.size(); from++) {
                int to = from + 1;
                while (to < all.size() && all.get(to) >= all.get(to - 1)) {
                    to++;
                }
                longest = Math.max(longest, to - from);
            }
            return longest;
        }

        int hardest() {
            int best = -1;
            long most = -1;
            List<Long> all = costs(steps);
            for (int rule = 0; rule < rules.size(); rule++) {
                long spent = -1;
                for (int i = 0; i < steps.size(); i++) {
                    if (!steps.get(i).isGuess() && steps.get(i).rule() == rule) {
                        spent = Math.max(spent, 0) + all.get(i);
                    }
                }
                if (spent > most) {
                    most = spent;
                    best = rule;
                }
            }
            return best;
        }

        boolean go(int step) {
            if (step < 0 || step > steps.size()) {
                return false;
            }
            cursor = step;
            return true;
        }

        int hint(int degree) {
            if (degree < 1 || degree > 4 || cursor >= steps.size()) {
                return -1;
            }
            Step step = steps.get(cursor);
            if (degree == 4) {
                cursor++;
                return step.size();
            }
            int[] byRule = {step.place() / 16, step.place(), step.rule()};
            return step.isGuess() ? -2 : byRule[degree - 1];
        }

        int keep() {
            if (kept.size() == 10) {
                return -1;
            }
            kept.add(new ArrayList<>(steps));
            return kept.size() - 1;
        }

        int compare(int row) {
            if (row < 0 || row >= kept.size()) {
                return -2;
            }
            List<Step> other = kept.get(row);
            int order = Integer.signum(Long.compare(total(steps), total(other)));
            if (order == 0) {
                order = Integer.signum(Integer.compare(steps.size(), other.size()));
            }
            List<Long> mine = costs(steps);
            List<Long> theirs = costs(other);
            mine.sort(Collections.reverseOrder());
            theirs.sort(Collections.reverseOrder());
            for (int i = 0; order == 0 && i < mine.size(); i++) {
                order = Integer.signum(Long.compare(mine.get(i), theirs.get(i)));
            }
            return order;
        }

        boolean same(int row) {
            if (row < 0 || row >= kept.size()) {
                return false;
            }
            List<Step> rest = new ArrayList<>(kept.get(row));
            for (Step step : steps) {
                if (!rest.remove(step)) {
                    return false;
                }
            }
            return rest.isEmpty();
        }
    }
}
