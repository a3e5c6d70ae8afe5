/** Promises 12 to 19: each boundary that a sentence names, on both sides, and what later calls show. */
public final class RowEdgesTest {
    private static final Answers ANSWERS = new Answers("RowEdgesTest");
    private static final int MAX = Integer.MAX_VALUE;
    private static final int MIN = Integer.MIN_VALUE;

    public static void main(String[] args) {
        stuckNumber();
        stuckWidth();
        stuckEachPlaceOnce();
        stuckInTheOrderOfTheSteps();
        stuckAtTwoHundredPlaces();
        runOfNoneAndOne();
        runOfAlikeAndLess();
        runAtStartMidstAndEnd();
        runOfTwoHundred();
        hardestOfNone();
        hardestOfAlikeOnes();
        hardestOfCostsTogether();
        hardestOfTheFortieth();
        goToBothEnds();
        goInAFullRow();
        goAfterADrop();
        hintDegree();
        hintOfRegions();
        hintOfAGuess();
        hintWithNoStep();
        hintOfDegreeFourAlongTheRow();
        keepTenth();
        keptRowsStay();
        compareRow();
        compareOrderOfWhatCounts();
        compareByTheLastOfFullRows();
        sameRow();
        sameHowOften();
        sameKinds();
        ANSWERS.finish();
    }

    private static void due(String call, long got, long want) {
        ANSWERS.due(call, got, want);
    }

    private static void due(String call, boolean got, boolean want) {
        ANSWERS.due(call, got, want);
    }

    /** Rule 0 has weight 4 and no extra: a step costs 12 less its width. */
    private static GradeRows withRule() {
        GradeRows x = new GradeRows();
        x.rule(4, 0);
        return x;
    }

    private static void costs(GradeRows x, int... all) {
        for (int cost : all) {
            x.used(0, 0, 12 - cost);
        }
    }

    private static void drops(GradeRows x, int count) {
        for (int i = 0; i < count; i++) {
            due("drop", x.drop(), true);
        }
    }

    private static void stuckNumber() {
        GradeRows x = withRule();
        due("12 of no steps", x.stuck(0), -1);
        x.used(0, 40, 1);
        x.used(0, 30, 1);
        due("12 -1", x.stuck(-1), -1);
        due("12 0", x.stuck(0), 40);
        due("12 1, the last", x.stuck(1), 30);
        due("12 2", x.stuck(2), -1);
        due("12 far below", x.stuck(MIN), -1);
        due("12 far above", x.stuck(MAX), -1);
        x.drop();
        due("12 1 that went", x.stuck(1), -1);
        due("12 0 stays", x.stuck(0), 40);
    }

    private static void stuckWidth() {
        GradeRows x = withRule();
        x.used(0, 40, 2);
        x.used(0, 41, 9);
        x.guess(1);
        x.used(0, 42, 0);
        due("12 width 2 and 9, a guess of depth 1, a refused one", x.stuck(0), -1);
        x.used(0, 40, 1);
        due("12 width 1", x.stuck(0), 40);
        due("12 it alone", x.stuck(1), -1);
    }

    private static void stuckEachPlaceOnce() {
        GradeRows x = withRule();
        x.rule(5, 5);
        x.used(0, 0, 1);
        x.used(1, 0, 1);
        x.used(0, 255, 1);
        x.used(0, 0, 1);
        x.used(1, 255, 1);
        due("12 place 0", x.stuck(0), 0);
        due("12 place 255", x.stuck(1), 255);
        due("12 each once", x.stuck(2), -1);
        drops(x, 2);
        due("12 the first ones stay", x.stuck(1), 255);
        drops(x, 1);
        due("12 255 went", x.stuck(1), -1);
        drops(x, 1);
        due("12 0 was there before", x.stuck(0), 0);
    }

    private static void stuckInTheOrderOfTheSteps() {
        GradeRows x = withRule();
        x.used(0, 9, 1);
        x.used(0, 3, 2);
        x.used(0, 5, 1);
        x.used(0, 3, 1);
        due("12 not by the places", x.stuck(0), 9);
        due("12 by the steps", x.stuck(1), 5);
        due("12 of width 1", x.stuck(2), 3);
        drops(x, 2);
        x.used(0, 3, 1);
        x.used(0, 5, 1);
        due("12 another order after drops", x.stuck(1), 3);
        due("12 and its last", x.stuck(2), 5);
    }

    private static void stuckAtTwoHundredPlaces() {
        GradeRows x = withRule();
        for (int i = 0; i < 200; i++) {
            x.used(0, 255 - i, 1);
        }
        due("12 first of 200", x.stuck(0), 255);
        due("12 last of 200", x.stuck(199), 56);
        due("12 behind 200", x.stuck(200), -1);
        due("12 the 201st step is refused", x.used(0, 1, 1), -1);
        due("12 and nowhere stuck", x.stuck(200), -1);
    }

    private static void runOfNoneAndOne() {
        GradeRows x = withRule();
        due("13 none", x.run(), 0);
        costs(x, 3);
        due("13 one", x.run(), 1);
        x.used(0, 0, 10);
        due("13 a refused step does not count", x.run(), 1);
        x.drop();
        due("13 none again", x.run(), 0);
        x.guess(1);
        due("13 one guess", x.run(), 1);
    }

    private static void runOfAlikeAndLess() {
        GradeRows x = withRule();
        costs(x, 6, 6);
        due("13 alike", x.run(), 2);
        x.drop();
        costs(x, 5);
        due("13 less by one", x.run(), 1);
        x.drop();
        costs(x, 7);
        due("13 more by one", x.run(), 2);
        GradeRows y = new GradeRows();
        y.guess(2);
        y.guess(1);
        due("13 a guess behind a guess counts twice", y.run(), 2);
        y.guess(1);
        due("13 and the next is alike", y.run(), 3);
        GradeRows z = new GradeRows();
        z.rule(4, 10);
        z.used(0, 0, 1);
        z.used(0, 0, 1);
        due("13 the first use is dearer", z.run(), 1);
        z.used(0, 0, 1);
        due("13 the later ones are alike", z.run(), 2);
    }

    private static void runAtStartMidstAndEnd() {
        GradeRows x = withRule();
        costs(x, 3, 4, 5, 3, 4);
        due("13 at the start", x.run(), 3);
        costs(x, 5);
        due("13 two as long", x.run(), 3);
        costs(x, 6);
        due("13 at the end", x.run(), 4);
        costs(x, 5, 6, 4);
        due("13 in the midst", x.run(), 4);
        GradeRows y = withRule();
        costs(y, 11, 10, 9, 8, 7, 6, 5, 4, 3);
        due("13 falling all along", y.run(), 1);
    }

    private static void runOfTwoHundred() {
        GradeRows x = withRule();
        for (int i = 0; i < 199; i++) {
            costs(x, 5);
        }
        due("13 199", x.run(), 199);
        costs(x, 5);
        due("13 200", x.run(), 200);
        costs(x, 5);
        due("13 not 201", x.run(), 200);
        x.drop();
        costs(x, 4);
        due("13 broken by the last", x.run(), 199);
    }

    private static void hardestOfNone() {
        GradeRows x = new GradeRows();
        due("14 no rules", x.hardest(), -1);
        x.rule(10000, 100000);
        x.rule(0, 0);
        due("14 no steps", x.hardest(), -1);
        x.guess(20);
        due("14 no step by a rule", x.hardest(), -1);
        x.used(0, 0, 10);
        due("14 a refused step is none", x.hardest(), -1);
        x.used(1, 0, 1);
        due("14 one that costs nothing", x.hardest(), 1);
        x.drop();
        due("14 it went", x.hardest(), -1);
    }

    private static void hardestOfAlikeOnes() {
        GradeRows x = new GradeRows();
        for (int i = 0; i < 4; i++) {
            x.rule(4, 0);
        }
        x.used(3, 0, 6);
        due("14 the only one", x.hardest(), 3);
        x.used(1, 0, 6);
        due("14 alike: the least", x.hardest(), 1);
        x.used(2, 0, 6);
        due("14 alike: still the least", x.hardest(), 1);
        x.used(2, 0, 9);
        due("14 more", x.hardest(), 2);
        x.used(1, 0, 9);
        due("14 alike again", x.hardest(), 1);
        GradeRows y = new GradeRows();
        y.rule(0, 0);
        y.rule(0, 0);
        y.used(1, 0, 1);
        y.used(1, 0, 1);
        due("14 nothing at all", y.hardest(), 1);
        y.used(0, 0, 1);
        due("14 nothing at all, alike", y.hardest(), 0);
    }

    private static void hardestOfCostsTogether() {
        GradeRows x = new GradeRows();
        x.rule(4, 0);
        x.rule(4, 5);
        x.used(0, 0, 1);
        x.used(1, 0, 7);
        due("14 11 against 10", x.hardest(), 0);
        x.drop();
        x.used(1, 0, 6);
        due("14 11 against 11", x.hardest(), 0);
        x.drop();
        x.used(1, 0, 5);
        due("14 11 against 12, the extra counts", x.hardest(), 1);
        x.used(0, 0, 9);
        due("14 two against one", x.hardest(), 0);
        x.used(1, 0, 9);
        due("14 14 against 15", x.hardest(), 1);
    }

    private static void hardestOfTheFortieth() {
        GradeRows x = new GradeRows();
        for (int i = 0; i < 40; i++) {
            x.rule(4, i);
        }
        for (int i = 0; i < 40; i++) {
            x.used(i, 0, 9);
            due("14 rule " + i, x.hardest(), i);
        }
    }

    private static void goToBothEnds() {
        GradeRows x = withRule();
        due("15 behind the last of none", x.go(0), true);
        due("15 1 of none", x.go(1), false);
        due("15 -1 of none", x.go(-1), false);
        x.used(0, 10, 1);
        x.used(0, 20, 1);
        due("15 a refused go moved nothing", x.hint(2), 10);
        due("15 the last", x.go(1), true);
        due("15 -1", x.go(-1), false);
        due("15 too far by one", x.go(3), false);
        due("15 far below", x.go(MIN), false);
        due("15 far above", x.go(MAX), false);
        due("15 still at the last", x.hint(2), 20);
        due("15 behind the last", x.go(2), true);
        due("15 none there", x.hint(2), -1);
        due("15 too far from there", x.go(3), false);
        x.used(0, 30, 1);
        due("15 the next step comes there", x.hint(2), 30);
        due("15 the first", x.go(0), true);
        due("15 it is there", x.hint(2), 10);
    }

    private static void goInAFullRow() {
        GradeRows x = withRule();
        for (int i = 0; i < 200; i++) {
            x.used(0, i, 5);
        }
        due("15 step 199", x.go(199), true);
        due("15 it is there", x.hint(2), 199);
        due("15 behind step 199", x.go(200), true);
        due("15 none there", x.hint(4), -1);
        due("15 201", x.go(201), false);
        due("15 still none", x.hint(1), -1);
        x.drop();
        due("15 200 after a drop", x.go(200), false);
        due("15 the cursor came along", x.hint(2), -1);
        x.used(0, 255, 5);
        due("15 to step 199", x.hint(2), 255);
    }

    private static void goAfterADrop() {
        GradeRows x = withRule();
        x.used(0, 1, 1);
        x.used(0, 2, 1);
        x.drop();
        due("15 no longer there", x.go(2), false);
        due("15 behind the last", x.go(1), true);
        x.drop();
        due("15 nor this", x.go(1), false);
        due("15 but 0", x.go(0), true);
    }

    private static void hintDegree() {
        GradeRows x = new GradeRows();
        for (int i = 0; i < 40; i++) {
            x.rule(1, 1);
        }
        x.used(39, 255, 9);
        x.used(0, 0, 1);
        due("16 degree 0", x.hint(0), -1);
        due("16 degree -1", x.hint(-1), -1);
        due("16 degree 5", x.hint(5), -1);
        due("16 far below", x.hint(MIN), -1);
        due("16 far above", x.hint(MAX), -1);
        due("16 degree 1, the most", x.hint(1), 15);
        due("16 degree 2, the most", x.hint(2), 255);
        due("16 degree 3, the most", x.hint(3), 39);
        due("16 degree 4, the most", x.hint(4), 9);
        due("16 degree 1, the least", x.hint(1), 0);
        due("16 degree 2, the least", x.hint(2), 0);
        due("16 degree 3, the least", x.hint(3), 0);
        due("16 degree 4, the least", x.hint(4), 1);
        due("16 no more", x.hint(1), -1);
    }

    private static void hintOfRegions() {
        GradeRows x = withRule();
        int[][] rows = {{0, 0}, {1, 0}, {15, 0}, {16, 1}, {31, 1}, {32, 2}, {127, 7}, {128, 8}, {239, 14}, {240, 15}};
        for (int[] row : rows) {
            x.used(0, row[0], 2);
            due("16 place " + row[0] + " divided", x.hint(1), row[1]);
            due("16 place " + row[0], x.hint(2), row[0]);
            x.hint(4);
        }
    }

    private static void hintOfAGuess() {
        GradeRows x = withRule();
        x.guess(1);
        x.guess(20);
        x.used(0, 50, 3);
        for (int degree = 1; degree <= 3; degree++) {
            due("16 guess, degree " + degree, x.hint(degree), -2);
        }
        due("16 guess, degree 0", x.hint(0), -1);
        due("16 guess, degree 5", x.hint(5), -1);
        due("16 guess, depth 1", x.hint(4), 1);
        due("16 the next guess", x.hint(3), -2);
        due("16 guess, depth 20", x.hint(4), 20);
        due("16 the step by a rule", x.hint(2), 50);
    }

    private static void hintWithNoStep() {
        GradeRows x = withRule();
        for (int degree = 0; degree <= 5; degree++) {
            due("16 no steps, degree " + degree, x.hint(degree), -1);
        }
        x.used(0, 60, 1);
        due("16 the cursor has not moved", x.hint(2), 60);
        x.go(1);
        for (int degree = 0; degree <= 5; degree++) {
            due("16 behind the last, degree " + degree, x.hint(degree), -1);
        }
        x.used(0, 61, 1);
        x.used(0, 62, 1);
        due("16 nor there", x.hint(2), 61);
    }

    private static void hintOfDegreeFourAlongTheRow() {
        GradeRows x = withRule();
        for (int i = 0; i < 200; i++) {
            x.used(0, i, 1 + i % 9);
        }
        for (int i = 0; i < 200; i++) {
            due("16 width of step " + i, x.hint(4), 1 + i % 9);
        }
        due("16 behind step 199", x.hint(4), -1);
        due("16 and stays", x.hint(4), -1);
        x.drop();
        x.used(0, 255, 7);
        due("16 back at step 199", x.hint(4), 7);
        due("16 behind it again", x.hint(4), -1);
    }

    private static void keepTenth() {
        GradeRows x = withRule();
        for (int i = 0; i < 9; i++) {
            due("17 row " + i, x.keep(), i);
        }
        due("17 row 9 before it is kept", x.compare(9), -2);
        x.guess(1);
        due("17 the 10th", x.keep(), 9);
        x.guess(1);
        due("17 the 11th", x.keep(), -1);
        due("17 no row 10", x.compare(10), -2);
        due("17 nor the same", x.same(10), false);
        due("17 row 9 is not changed", x.same(9), false);
        due("17 nor is it harder", x.compare(9), 1);
        drops(x, 1);
        due("17 row 9 is of one guess", x.same(9), true);
        drops(x, 1);
        due("17 row 0 is of none", x.same(0), true);
        due("17 drops make no room for rows", x.keep(), -1);
    }

    private static void keptRowsStay() {
        GradeRows x = withRule();
        x.keep();
        costs(x, 5, 6);
        x.keep();
        due("17 the steps stay", x.sum(9), 11);
        due("17 the cursor stays", x.hint(4), 7);
        drops(x, 2);
        due("17 the row has what went", x.compare(1), -1);
        costs(x, 7, 8);
        due("17 and not what came", x.compare(1), 1);
        due("17 nor is it the same", x.same(1), false);
        due("17 row 0 is still of none", x.compare(0), 1);
        drops(x, 2);
        due("17 row 0 is the same", x.same(0), true);
    }

    private static void compareRow() {
        GradeRows x = withRule();
        due("18 row 0 of none", x.compare(0), -2);
        x.keep();
        costs(x, 5);
        x.keep();
        due("18 row -1", x.compare(-1), -2);
        due("18 row 0", x.compare(0), 1);
        due("18 row 1, the last", x.compare(1), 0);
        due("18 row 2", x.compare(2), -2);
        due("18 far below", x.compare(MIN), -2);
        due("18 far above", x.compare(MAX), -2);
        x.drop();
        due("18 none against none", x.compare(0), 0);
        due("18 none against one", x.compare(1), -1);
    }

    /** Rule 1 costs nothing, so that it makes more steps of the same sum. */
    private static void compareOrderOfWhatCounts() {
        GradeRows x = withRule();
        x.rule(0, 0);
        costs(x, 6, 6);
        x.keep();
        x.used(1, 0, 1);
        due("18 alike sums, one step more", x.compare(0), 1);
        x.keep();
        drops(x, 1);
        due("18 alike sums, one step less", x.compare(1), -1);
        drops(x, 2);
        costs(x, 6, 7);
        due("18 a sum more by one, a step less", x.compare(1), 1);
        drops(x, 2);
        costs(x, 3, 3, 3, 3);
        due("18 alike sums, cheaper but more steps", x.compare(0), 1);
        drops(x, 4);
        costs(x, 7, 5);
        due("18 the dearest is more by one", x.compare(0), 1);
        x.keep();
        drops(x, 2);
        costs(x, 6, 6);
        due("18 the dearest is less by one", x.compare(2), -1);
        drops(x, 2);
        costs(x, 5, 7);
        due("18 the order of the steps does not count", x.compare(2), 0);
        GradeRows y = new GradeRows();
        y.rule(0, 0);
        y.keep();
        y.used(0, 0, 1);
        due("18 one step for nothing against none", y.compare(0), 1);
        y.keep();
        y.drop();
        due("18 none against one step for nothing", y.compare(1), -1);
    }

    /** Sums and counts are alike, and all costs but those of the two cheapest steps. */
    private static void compareByTheLastOfFullRows() {
        GradeRows x = withRule();
        for (int i = 0; i < 198; i++) {
            costs(x, 8);
        }
        costs(x, 5, 5);
        x.keep();
        due("18 full rows alike", x.compare(0), 0);
        drops(x, 2);
        costs(x, 4, 6);
        due("18 6 and 4 against 5 and 5", x.compare(0), 1);
        x.keep();
        drops(x, 2);
        costs(x, 5, 5);
        due("18 5 and 5 against 6 and 4", x.compare(1), -1);
        due("18 5 and 5 against themselves", x.compare(0), 0);
    }

    private static void sameRow() {
        GradeRows x = withRule();
        due("19 row 0 of none", x.same(0), false);
        costs(x, 5);
        x.keep();
        x.keep();
        due("19 row -1", x.same(-1), false);
        due("19 row 0", x.same(0), true);
        due("19 row 1, the last", x.same(1), true);
        due("19 row 2", x.same(2), false);
        due("19 far below", x.same(MIN), false);
        due("19 far above", x.same(MAX), false);
        x.drop();
        due("19 none against one", x.same(1), false);
        x.keep();
        due("19 none against none", x.same(2), true);
        costs(x, 5);
        due("19 one against none", x.same(2), false);
    }

    private static void sameHowOften() {
        GradeRows x = withRule();
        costs(x, 5, 5, 6);
        x.keep();
        costs(x, 6);
        due("19 one more", x.same(0), false);
        drops(x, 2);
        due("19 one less", x.same(0), false);
        drops(x, 1);
        costs(x, 6, 6);
        due("19 as many, but other ones twice", x.same(0), false);
        drops(x, 2);
        costs(x, 6, 5);
        due("19 another order", x.same(0), true);
        drops(x, 3);
        costs(x, 6, 5, 5);
        due("19 turned round", x.same(0), true);
    }

    /** Ten single steps, no two of them the same; the last two are guesses. */
    private static void sameKinds() {
        int[][] kinds = {
            {0, 0, 1}, {0, 0, 2}, {0, 0, 9}, {0, 1, 1}, {0, 255, 9}, {1, 0, 1}, {1, 0, 2}, {1, 255, 9}, {1}, {2}
        };
        GradeRows x = withRule();
        x.rule(4, 0);
        for (int[] kind : kinds) {
            oneStep(x, kind);
            x.keep();
            x.drop();
        }
        for (int i = 0; i < kinds.length; i++) {
            oneStep(x, kinds[i]);
            for (int row = 0; row < kinds.length; row++) {
                due("19 kind " + i + " against kind " + row, x.same(row), i == row);
            }
            x.drop();
        }
    }

    private static void oneStep(GradeRows x, int[] kind) {
        due("19 the step", kind.length == 1 ? x.guess(kind[0]) : x.used(kind[0], kind[1], kind[2]), 0);
    }
}
