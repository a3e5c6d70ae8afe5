import java.util.ArrayList;
import java.util.Collections;
import java.util.List;

/** Works all out anew at each call, from the list of steps and by the document's words. */
final class Model {
    private record Rule(int weight, int extra) { }

    private record Step(boolean isGuess, int rule, int place, int size) { }

    private record Span(long low, long high) { }

    final List<Rule> rules = new ArrayList<>();
    final List<Step> steps = new ArrayList<>();
    final List<Span> classes = new ArrayList<>();
    final List<List<Step>> kept = new ArrayList<>();
    int cursor = 0;

    int rule(int weight, int extra) {
        if (weight < 0 || weight > 10000 || extra < 0 || extra > 100000 || rules.size() == 40) {
            return -1;
        }
        rules.add(new Rule(weight, extra));
        return rules.size() - 1;
    }

    int used(int rule, int place, int width) {
        boolean wrong = rule < 0 || rule >= rules.size() || place < 0 || place > 255 || width < 1 || width > 9;
        return wrong ? -1 : add(new Step(false, rule, place, width));
    }

    int guess(int depth) {
        return depth < 1 || depth > 20 ? -1 : add(new Step(true, -1, -1, depth));
    }

    int add(Step step) {
        if (steps.size() == 200) {
            return -1;
        }
        steps.add(step);
        return steps.size() - 1;
    }

    boolean drop() {
        if (steps.isEmpty()) {
            return false;
        }
        int last = steps.size() - 1;
        steps.remove(last);
        if (cursor > last) {
            cursor = last;
        }
        return true;
    }

    List<Long> costs(List<Step> row) {
        List<Long> all = new ArrayList<>();
        for (int i = 0; i < row.size(); i++) {
            all.add(costIn(row, i));
        }
        return all;
    }

    long costIn(List<Step> row, int at) {
        Step step = row.get(at);
        if (step.isGuess()) {
            return 1000L * step.size() * (at > 0 && row.get(at - 1).isGuess() ? 2 : 1);
        }
        Rule rule = rules.get(step.rule());
        boolean first = true;
        for (Step before : row.subList(0, at)) {
            first &= before.isGuess() || before.rule() != step.rule();
        }
        return rule.weight() * (12 - step.size()) / 4 + (first ? rule.extra() : 0);
    }

    long total(List<Step> row) {
        return costs(row).stream().mapToLong(Long::longValue).sum();
    }

    long cost(int step) {
        return step < 0 || step >= steps.size() ? -1 : costIn(steps, step);
    }

    long sum(int n) {
        return n < 0 ? -1 : total(steps.subList(0, Math.min(n, steps.size())));
    }

    int cls(long low, long high) {
        boolean taken = classes.stream().anyMatch(c -> !(high < c.low() || c.high() < low));
        if (low < 0 || high < low || high > 100000000L || taken || classes.size() == 20) {
            return -1;
        }
        classes.add(new Span(low, high));
        return classes.size() - 1;
    }

    int classOf(long sum) {
        for (int i = 0; i < classes.size(); i++) {
            if (classes.get(i).low() <= sum && sum <= classes.get(i).high()) {
                return i;
            }
        }
        return -1;
    }

    int grade() {
        return classOf(total(steps));
    }

    int rank() {
        long sum = total(steps);
        return grade() == -1 ? -1 : (int) classes.stream().filter(c -> c.high() < sum).count();
    }

    /** The answer is from itself or right above a class. */
    long gap(long from) {
        if (from < 0) {
            return -1;
        }
        List<Long> candidates = new ArrayList<>(List.of(from));
        classes.forEach(c -> candidates.add(c.high() + 1));
        return candidates.stream().filter(s -> s >= from && classOf(s) == -1).min(Long::compare).orElseThrow();
    }

    int stuck(int k) {
        List<Integer> places = steps.stream().filter(s -> !s.isGuess() && s.size() == 1)
            .map(Step::place).distinct().toList();
        return k < 0 || k >= places.size() ? -1 : places.get(k);
    }

    int run() {
        List<Long> all = costs(steps);
        int longest = 0;
        for (int from = 0; from < all.size(); from++) {
            int to = from + 1;
            while (to < all.size() && all.get(to) >= all.get(to - 1)) {
                to++;
            }
            longest = Math.max(longest, to - from);
        }
        return longest;
    }

    int hardest() {
        int best = -1;
        long most = -1;
        List<Long> all = costs(steps);
        for (int rule = 0; rule < rules.size(); rule++) {
            long spent = -1;
            for (int i = 0; i < steps.size(); i++) {
                if (!steps.get(i).isGuess() && steps.get(i).rule() == rule) {
                    spent = Math.max(spent, 0) + all.get(i);
                }
            }
            if (spent > most) {
                most = spent;
                best = rule;
            }
        }
        return best;
    }

    boolean go(int step) {
        if (step < 0 || step > steps.size()) {
            return false;
        }
        cursor = step;
        return true;
    }

    int hint(int degree) {
        if (degree < 1 || degree > 4 || cursor >= steps.size()) {
            return -1;
        }
        Step step = steps.get(cursor);
        if (degree == 4) {
            cursor++;
            return step.size();
        }
        int[] byRule = {step.place() / 16, step.place(), step.rule()};
        return step.isGuess() ? -2 : byRule[degree - 1];
    }

    int keep() {
        if (kept.size() == 10) {
            return -1;
        }
        kept.add(new ArrayList<>(steps));
        return kept.size() - 1;
    }

    int compare(int row) {
        if (row < 0 || row >= kept.size()) {
            return -2;
        }
        List<Step> other = kept.get(row);
        int order = Integer.signum(Long.compare(total(steps), total(other)));
        if (order == 0) {
            order = Integer.signum(Integer.compare(steps.size(), other.size()));
        }
        List<Long> mine = costs(steps);
        List<Long> theirs = costs(other);
        mine.sort(Collections.reverseOrder());
        theirs.sort(Collections.reverseOrder());
        for (int i = 0; order == 0 && i < mine.size(); i++) {
            order = Integer.signum(Long.compare(mine.get(i), theirs.get(i)));
        }
        return order;
    }

    boolean same(int row) {
        if (row < 0 || row >= kept.size()) {
            return false;
        }
        List<Step> rest = new ArrayList<>(kept.get(row));
        for (Step step : steps) {
            if (!rest.remove(step)) {
                return false;
            }
        }
        return rest.isEmpty();
    }
}
