/** Promises 1 to 7: each boundary that a sentence names, on both sides, and what later calls show. */
public final class StepEdgesTest {
    private static final Answers ANSWERS = new Answers("StepEdgesTest");
    private static final int MAX = Integer.MAX_VALUE;
    private static final int MIN = Integer.MIN_VALUE;

    public static void main(String[] args) {
        newHasNoRules();
        newHasNoSteps();
        newHasNoClasses();
        newHasNothingKept();
        newHasTheCursorAtZero();
        ruleWeight();
        ruleExtra();
        ruleFortieth();
        usedRule();
        usedPlace();
        usedWidth();
        usedTwoHundredth();
        guessDepth();
        guessTwoHundredth();
        dropToNone();
        dropFromFull();
        dropMovesTheCursorFromBehind();
        dropLeavesTheCursorElsewhere();
        dropMakesTheFirstUseFree();
        dropMakesTheGuessFirst();
        costOfNoStep();
        costLeavesOutThePartBehindThePoint();
        costOfTheFirstStepByARule();
        costOfAGuessBehindAGuess();
        sumBelowZero();
        sumOfMoreThanThereAre();
        sumOfTheMost();
        ANSWERS.finish();
    }

    private static void due(String call, long got, long want) {
        ANSWERS.due(call, got, want);
    }

    private static void due(String call, boolean got, boolean want) {
        ANSWERS.due(call, got, want);
    }

    /** Rule 0 has weight 4 and no extra: a step costs 12 less its width. */
    private static GradeRows withRule() {
        GradeRows x = new GradeRows();
        x.rule(4, 0);
        return x;
    }

    private static void newHasNoRules() {
        GradeRows x = new GradeRows();
        due("1 no rule 0", x.used(0, 0, 1), -1);
        due("1 no rule is hardest", x.hardest(), -1);
        due("1 the first rule is 0", x.rule(4, 0), 0);
        due("1 now there is one", x.used(0, 0, 1), 0);
        due("1 but one alone", x.used(1, 0, 1), -1);
    }

    private static void newHasNoSteps() {
        GradeRows x = new GradeRows();
        due("1 no step 0", x.cost(0), -1);
        due("1 no sum", x.sum(200), 0);
        due("1 no run", x.run(), 0);
        due("1 nowhere stuck", x.stuck(0), -1);
        due("1 nothing to drop", x.drop(), false);
        due("1 the first step is 0", x.guess(1), 0);
        due("1 now there is one", x.cost(0), 1000);
        due("1 but one alone", x.cost(1), -1);
    }

    private static void newHasNoClasses() {
        GradeRows x = new GradeRows();
        due("1 no class has 0", x.grade(), -1);
        due("1 no rank", x.rank(), -1);
        due("1 0 is free", x.gap(0), 0);
        due("1 the first class may have all", x.cls(0, 100000000L), 0);
        due("1 and has 0", x.grade(), 0);
    }

    private static void newHasNothingKept() {
        GradeRows x = new GradeRows();
        due("1 no row 0", x.compare(0), -2);
        due("1 nor the same", x.same(0), false);
        due("1 the first row is 0", x.keep(), 0);
        due("1 now there is one", x.compare(0), 0);
        due("1 and it has no steps either", x.same(0), true);
        due("1 but one alone", x.compare(1), -2);
    }

    private static void newHasTheCursorAtZero() {
        GradeRows x = withRule();
        due("1 none there", x.hint(2), -1);
        x.used(0, 77, 1);
        x.used(0, 88, 1);
        due("1 cursor at 0", x.hint(2), 77);
    }

    private static void ruleWeight() {
        GradeRows x = new GradeRows();
        due("2 weight -1", x.rule(-1, 5), -1);
        due("2 weight 10001", x.rule(10001, 5), -1);
        due("2 weight 0", x.rule(0, 5), 0);
        due("2 weight 1", x.rule(1, 5), 1);
        due("2 weight 9999", x.rule(9999, 5), 2);
        due("2 weight 10000", x.rule(10000, 5), 3);
        due("2 weight 10001 again", x.rule(10001, 5), -1);
        for (int rule = 0; rule < 4; rule++) {
            x.used(rule, 0, 4);
        }
        due("2 cost by weight 0", x.cost(0), 5);
        due("2 cost by weight 1", x.cost(1), 2 + 5);
        due("2 cost by weight 9999", x.cost(2), 19998 + 5);
        due("2 cost by weight 10000", x.cost(3), 20000 + 5);
        due("2 refused ones took no number", x.used(4, 0, 4), -1);
    }

    private static void ruleExtra() {
        GradeRows x = new GradeRows();
        due("2 extra -1", x.rule(5, -1), -1);
        due("2 extra 100001", x.rule(5, 100001), -1);
        due("2 extra 0", x.rule(4, 0), 0);
        due("2 extra 1", x.rule(4, 1), 1);
        due("2 extra 99999", x.rule(4, 99999), 2);
        due("2 extra 100000", x.rule(4, 100000), 3);
        due("2 extra 100001 again", x.rule(4, 100001), -1);
        for (int rule = 0; rule < 4; rule++) {
            x.used(rule, 0, 9);
        }
        due("2 cost with extra 0", x.cost(0), 3);
        due("2 cost with extra 1", x.cost(1), 4);
        due("2 cost with extra 99999", x.cost(2), 100002);
        due("2 cost with extra 100000", x.cost(3), 100003);
        due("2 refused ones took no number", x.used(4, 0, 9), -1);
    }

    private static void ruleFortieth() {
        GradeRows x = new GradeRows();
        for (int i = 0; i < 39; i++) {
            due("2 rule " + i, x.rule(i, 0), i);
        }
        due("2 rule 39 before it is told", x.used(39, 0, 8), -1);
        due("2 the 40th is refused by its weight", x.rule(10001, 0), -1);
        due("2 the 40th", x.rule(40, 3), 39);
        due("2 the 41st", x.rule(50, 4), -1);
        due("2 the 41st is not there", x.used(40, 0, 8), -1);
        due("2 the 40th is", x.used(39, 0, 8), 0);
        due("2 and is as it was told", x.cost(0), 43);
        due("2 as is the first", x.used(0, 0, 8), 1);
        due("2 that costs nothing", x.cost(1), 0);
        x.drop();
        x.drop();
        due("2 drops make no room for rules", x.rule(1, 1), -1);
    }

    private static void usedRule() {
        GradeRows x = new GradeRows();
        x.rule(4, 0);
        x.rule(8, 0);
        due("3 rule -1", x.used(-1, 0, 8), -1);
        due("3 rule 2 of 2", x.used(2, 0, 8), -1);
        due("3 rule far below", x.used(MIN, 0, 8), -1);
        due("3 rule far above", x.used(MAX, 0, 8), -1);
        due("3 rule 0", x.used(0, 0, 8), 0);
        due("3 rule 1 of 2", x.used(1, 0, 8), 1);
        due("3 cost by rule 0", x.cost(0), 4);
        due("3 cost by rule 1", x.cost(1), 8);
        due("3 refused ones are no steps", x.cost(2), -1);
        x.rule(12, 0);
        due("3 rule 2 of 3", x.used(2, 0, 8), 2);
        due("3 cost by rule 2", x.cost(2), 12);
    }

    private static void usedPlace() {
        GradeRows x = withRule();
        due("3 place -1", x.used(0, -1, 1), -1);
        due("3 place 256", x.used(0, 256, 1), -1);
        due("3 place far below", x.used(0, MIN, 1), -1);
        due("3 place far above", x.used(0, MAX, 1), -1);
        due("3 nowhere stuck", x.stuck(0), -1);
        due("3 place 0", x.used(0, 0, 1), 0);
        due("3 place 255", x.used(0, 255, 1), 1);
        due("3 stuck at 0", x.stuck(0), 0);
        due("3 stuck at 255", x.stuck(1), 255);
        due("3 stuck nowhere else", x.stuck(2), -1);
    }

    private static void usedWidth() {
        GradeRows x = withRule();
        due("3 width 0", x.used(0, 5, 0), -1);
        due("3 width -1", x.used(0, 5, -1), -1);
        due("3 width 10", x.used(0, 5, 10), -1);
        due("3 width 12", x.used(0, 5, 12), -1);
        due("3 width far below", x.used(0, 5, MIN), -1);
        due("3 width far above", x.used(0, 5, MAX), -1);
        due("3 no sum of them", x.sum(MAX), 0);
        due("3 width 1", x.used(0, 5, 1), 0);
        due("3 width 9", x.used(0, 5, 9), 1);
        due("3 cost of width 1", x.cost(0), 11);
        due("3 cost of width 9", x.cost(1), 3);
    }

    private static void usedTwoHundredth() {
        GradeRows x = withRule();
        x.rule(0, 70);
        for (int i = 0; i < 199; i++) {
            x.used(0, i, 9);
        }
        due("3 the 200th is refused by its place", x.used(0, 256, 9), -1);
        due("3 the 200th", x.used(0, 255, 9), 199);
        due("3 the 201st", x.used(1, 7, 1), -1);
        due("3 not even without cost", x.used(0, 7, 1), -1);
        due("3 no step 200", x.cost(200), -1);
        due("3 the 200th stays", x.cost(199), 3);
        due("3 the sum stays", x.sum(MAX), 600);
        due("3 the refused are nowhere stuck", x.stuck(0), -1);
        due("3 the refused rule has no step", x.hardest(), 0);
        due("3 one goes", x.drop(), true);
        due("3 its place is taken", x.used(1, 7, 1), 199);
        due("3 by a first use", x.cost(199), 70);
        due("3 full again", x.used(1, 7, 1), -1);
    }

    private static void guessDepth() {
        GradeRows x = withRule();
        due("4 depth 0", x.guess(0), -1);
        due("4 depth -1", x.guess(-1), -1);
        due("4 depth 21", x.guess(21), -1);
        due("4 depth far below", x.guess(MIN), -1);
        due("4 depth far above", x.guess(MAX), -1);
        due("4 depth 1", x.guess(1), 0);
        due("4 a refused guess is not before it", x.cost(0), 1000);
        due("4 depth 0 behind it", x.guess(0), -1);
        x.used(0, 0, 9);
        due("4 depth 21 behind a step by a rule", x.guess(21), -1);
        due("4 depth 20", x.guess(20), 2);
        due("4 nor before this one", x.cost(2), 20000);
        due("4 the sum", x.sum(MAX), 21003);
    }

    private static void guessTwoHundredth() {
        GradeRows x = withRule();
        for (int i = 0; i < 199; i++) {
            x.used(0, 0, 9);
        }
        due("4 the 200th is refused by its depth", x.guess(21), -1);
        due("4 the 200th", x.guess(3), 199);
        due("4 the 201st", x.guess(1), -1);
        due("4 nor by a rule", x.used(0, 0, 1), -1);
        due("4 no step 200", x.cost(200), -1);
        due("4 the 200th stays", x.cost(199), 3000);
        due("4 the sum stays", x.sum(MAX), 199 * 3 + 3000);
        due("4 one goes", x.drop(), true);
        due("4 its place is taken", x.guess(2), 199);
        due("4 at its cost", x.cost(199), 2000);
        due("4 full again", x.guess(1), -1);
    }

    private static void dropToNone() {
        GradeRows x = withRule();
        due("5 none at first", x.drop(), false);
        x.used(0, 9, 1);
        due("5 the only one", x.drop(), true);
        due("5 none left", x.drop(), false);
        due("5 no cost", x.cost(0), -1);
        due("5 no sum", x.sum(1), 0);
        due("5 no run", x.run(), 0);
        due("5 nowhere stuck", x.stuck(0), -1);
        due("5 no hardest", x.hardest(), -1);
        due("5 the next is 0 again", x.guess(4), 0);
        due("5 a guess goes too", x.drop(), true);
        due("5 and none is left", x.drop(), false);
    }

    private static void dropFromFull() {
        GradeRows x = new GradeRows();
        for (int i = 0; i < 200; i++) {
            x.guess(1);
        }
        for (int left = 199; left >= 0; left--) {
            due("5 down to " + left, x.drop(), true);
        }
        due("5 the 201st drop", x.drop(), false);
        due("5 the next is 0", x.guess(1), 0);
        due("5 and the first guess", x.cost(0), 1000);
    }

    private static void dropMovesTheCursorFromBehind() {
        GradeRows x = withRule();
        x.used(0, 1, 1);
        x.used(0, 2, 1);
        x.go(2);
        x.drop();
        due("5 none there", x.hint(2), -1);
        x.used(0, 3, 1);
        due("5 cursor at 1", x.hint(2), 3);
        x.go(2);
        x.drop();
        x.drop();
        x.used(0, 4, 1);
        x.used(0, 5, 1);
        due("5 cursor at 0", x.hint(2), 4);
        x.hint(4);
        x.hint(4);
        x.drop();
        x.used(0, 6, 1);
        due("5 from where a hint has led", x.hint(2), 6);
    }

    private static void dropLeavesTheCursorElsewhere() {
        GradeRows x = withRule();
        x.used(0, 1, 1);
        x.used(0, 2, 1);
        x.used(0, 3, 1);
        x.go(2);
        x.drop();
        due("5 at the step that went", x.hint(2), -1);
        x.used(0, 4, 1);
        due("5 and stays there", x.hint(2), 4);
        x.go(1);
        x.drop();
        due("5 right before it", x.hint(2), 2);
        x.go(0);
        x.drop();
        due("5 at the first", x.hint(2), 1);
        x.drop();
        x.drop();
        x.used(0, 5, 1);
        due("5 a refused drop moves nothing", x.hint(2), 5);
    }

    private static void dropMakesTheFirstUseFree() {
        GradeRows x = new GradeRows();
        x.rule(4, 100);
        x.used(0, 0, 9);
        x.used(0, 0, 9);
        x.drop();
        x.used(0, 0, 9);
        due("5 the second goes, the first stays first", x.cost(1), 3);
        x.drop();
        x.drop();
        x.used(0, 0, 8);
        due("5 both go, the next is first", x.cost(0), 104);
    }

    private static void dropMakesTheGuessFirst() {
        GradeRows x = withRule();
        x.guess(1);
        x.drop();
        x.guess(1);
        due("5 the guess before went", x.cost(0), 1000);
        x.used(0, 0, 1);
        x.drop();
        x.guess(1);
        due("5 the step between went", x.cost(1), 2000);
    }

    private static void costOfNoStep() {
        GradeRows x = withRule();
        due("6 step 0 of none", x.cost(0), -1);
        x.used(0, 0, 1);
        x.guess(1);
        due("6 step -1", x.cost(-1), -1);
        due("6 step 0", x.cost(0), 11);
        due("6 step 1, the last", x.cost(1), 1000);
        due("6 step 2", x.cost(2), -1);
        due("6 far below", x.cost(MIN), -1);
        due("6 far above", x.cost(MAX), -1);
        x.drop();
        due("6 step 1 that went", x.cost(1), -1);
    }

    /** Weight times 12 less the width at each rest of a division by 4. */
    private static void costLeavesOutThePartBehindThePoint() {
        GradeRows x = new GradeRows();
        for (int weight = 0; weight < 5; weight++) {
            x.rule(weight, 0);
        }
        int[][] rows = {
            {0, 1, 0}, {1, 9, 0}, {1, 8, 1}, {1, 7, 1}, {1, 5, 1}, {1, 4, 2}, {1, 1, 2},
            {2, 9, 1}, {2, 7, 2}, {2, 6, 3}, {2, 1, 5}, {3, 9, 2}, {3, 8, 3}, {3, 1, 8}, {4, 9, 3}, {4, 1, 11}
        };
        for (int i = 0; i < rows.length; i++) {
            due("6 step " + i, x.used(rows[i][0], 0, rows[i][1]), i);
            due("6 weight " + rows[i][0] + ", width " + rows[i][1], x.cost(i), rows[i][2]);
        }
        GradeRows y = new GradeRows();
        y.rule(10000, 100000);
        y.used(0, 0, 1);
        y.used(0, 0, 1);
        due("6 the dearest", y.cost(0), 127500);
        due("6 without extra", y.cost(1), 27500);
        GradeRows z = new GradeRows();
        z.rule(1, 1);
        z.used(0, 0, 9);
        due("6 divided before the extra comes", z.cost(0), 1);
    }

    private static void costOfTheFirstStepByARule() {
        GradeRows x = new GradeRows();
        x.rule(4, 100);
        x.rule(4, 100);
        x.guess(1);
        x.used(0, 0, 9);
        x.used(1, 0, 9);
        x.used(0, 1, 8);
        x.used(1, 1, 8);
        due("6 first by rule 0", x.cost(1), 103);
        due("6 first by rule 1, alike but another", x.cost(2), 103);
        due("6 second by rule 0, elsewhere", x.cost(3), 4);
        due("6 second by rule 1, elsewhere", x.cost(4), 4);
        GradeRows y = new GradeRows();
        y.rule(4, 100);
        y.used(0, 256, 1);
        y.used(0, 0, 10);
        y.used(0, 0, 1);
        due("6 refused ones were not the first", y.cost(0), 111);
    }

    private static void costOfAGuessBehindAGuess() {
        GradeRows x = withRule();
        x.guess(5);
        x.used(1, 0, 1);
        x.guess(5);
        x.guess(5);
        x.used(0, 0, 1);
        x.guess(5);
        due("6 first of all", x.cost(0), 5000);
        due("6 a refused step is not between", x.cost(1), 10000);
        due("6 behind two: twice, not more", x.cost(2), 10000);
        due("6 right behind a step by a rule", x.cost(4), 5000);
        x.guess(21);
        x.guess(20);
        due("6 the dearest", x.cost(5), 40000);
    }

    private static void sumBelowZero() {
        GradeRows x = withRule();
        due("7 -1 of none", x.sum(-1), -1);
        due("7 0 of none", x.sum(0), 0);
        x.used(0, 0, 1);
        due("7 -1", x.sum(-1), -1);
        due("7 far below", x.sum(MIN), -1);
        due("7 0", x.sum(0), 0);
        due("7 1", x.sum(1), 11);
    }

    private static void sumOfMoreThanThereAre() {
        GradeRows x = withRule();
        due("7 1 of none", x.sum(1), 0);
        x.used(0, 0, 1);
        x.guess(1);
        x.guess(1);
        due("7 one less", x.sum(2), 1011);
        due("7 all", x.sum(3), 3011);
        due("7 one more", x.sum(4), 3011);
        due("7 200", x.sum(200), 3011);
        due("7 201", x.sum(201), 3011);
        due("7 far above", x.sum(MAX), 3011);
        x.drop();
        due("7 not what went", x.sum(3), 1011);
    }

    /** No 200 steps cost more: each rule's first use, then guesses. */
    private static void sumOfTheMost() {
        GradeRows x = new GradeRows();
        for (int i = 0; i < 40; i++) {
            x.rule(10000, 100000);
            x.used(i, i, 1);
        }
        for (int i = 0; i < 160; i++) {
            x.guess(20);
        }
        due("7 of 40", x.sum(40), 5100000);
        due("7 of 199", x.sum(199), 11440000);
        due("7 of 200", x.sum(200), 11480000);
        due("7 of 201", x.sum(201), 11480000);
        due("7 a class has it", x.cls(11480000, 11480000), 0);
        due("7 its grade", x.grade(), 0);
    }
}
