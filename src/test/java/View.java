import java.util.ArrayList;
import java.util.List;

/**
 * All that an object shows of itself: the answers of one row of calls, those that change it last.
 * Two objects with the same state have the same view; each object is looked at once.
 */
final class View {
    /** A full object takes 271 calls to make: with one more and these it stays within its 512. */
    static final int MOST_CALLS = 240;

    private static final int FAR = Integer.MAX_VALUE;
    private static final int DROPS = 42;

    private final GradeRows x;
    private final List<String> answers = new ArrayList<>();

    private View(GradeRows x) {
        this.x = x;
    }

    static List<String> of(GradeRows x) {
        View view = new View(x);
        view.look();
        view.lookByChanging();
        if (view.answers.size() > MOST_CALLS) {
            throw new IllegalStateException("a view takes " + view.answers.size() + " calls");
        }
        return view.answers;
    }

    private void look() {
        see("grade", x.grade());
        see("rank", x.rank());
        see("run", x.run());
        see("hardest", x.hardest());
        see("sum of all", x.sum(FAR));
        for (int step : new int[] {0, 1, 2, 3, 4, 5, 6, 197, 198, 199, 200}) {
            see("cost " + step, x.cost(step));
        }
        for (int from : new int[] {0, 1001, 4000, 90000000}) {
            see("gap " + from, x.gap(from));
        }
        for (int k = 0; k < 4; k++) {
            see("stuck " + k, x.stuck(k));
        }
        for (int row = 0; row <= 10; row++) {
            see("compare " + row, x.compare(row));
            see("same " + row, x.same(row) ? 1 : 0);
        }
    }

    private void lookByChanging() {
        for (int degree = 1; degree <= 4; degree++) {
            see("hint " + degree, x.hint(degree));
        }
        see("the next hint", x.hint(2));
        see("keep", x.keep());
        see("rule", x.rule(1, 1));
        see("cls", x.cls(99000000L, 99000000L));
        for (int i = 0; i < DROPS; i++) {
            see("drop", x.drop() ? 1 : 0);
        }
        see("hint after drops", x.hint(2));
        int guess = x.guess(1);
        see("guess", guess);
        see("its cost", x.cost(guess));
        for (int rule = 0; rule <= 40; rule++) {
            int step = x.used(rule, rule, 1);
            see("used " + rule, step);
            see("its cost", x.cost(step));
        }
        see("sum at last", x.sum(FAR));
        see("hardest at last", x.hardest());
        see("run at last", x.run());
    }

    private void see(String call, long answer) {
        answers.add(call + " = " + answer);
    }
}
