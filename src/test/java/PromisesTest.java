/** Each promise of the document by ordinary inputs, by the edges that it names, and by wrong inputs. */
public final class PromisesTest {
    private static final Answers ANSWERS = new Answers("PromisesTest");
    private static final int MIN = Integer.MIN_VALUE;
    private static final int MAX = Integer.MAX_VALUE;

    public static void main(String[] args) {
        promise1NewObject();
        promise2Rule();
        promise3Used();
        promise4Guess();
        promise5Drop();
        promise5DropUndoesAll();
        promise6CostOfRules();
        promise6CostOfGuesses();
        promise7Sum();
        promise8Cls();
        promise9Grade();
        promise10Rank();
        promise11Gap();
        promise12Stuck();
        promise13Run();
        promise14Hardest();
        promise15Go();
        promise16Hint();
        promise16HintMovesTheCursor();
        promise17Keep();
        promise18CompareBySumsAndCounts();
        promise18CompareByCosts();
        promise19Same();
        promise18And19FullRows();
        exampleOfTheReadme();
        ANSWERS.finish();
    }

    private static void due(String call, long got, long want) {
        ANSWERS.due(call, got, want);
    }

    private static void due(String call, boolean got, boolean want) {
        ANSWERS.due(call, got, want);
    }

    /** Rule 0: weight 4 and no extra (a step costs 12 less its width); rule 1: weight 0, extra 50. */
    private static GradeRows withRules() {
        GradeRows x = new GradeRows();
        x.rule(4, 0);
        x.rule(0, 50);
        return x;
    }

    private static void dropAll(GradeRows x) {
        boolean more = true;
        for (int i = 0; i < 200 && more; i++) {
            more = x.drop();
        }
    }

    private static void promise1NewObject() {
        GradeRows x = new GradeRows();
        due("1 no rule", x.used(0, 0, 1), -1);
        due("1 no step to drop", x.drop(), false);
        due("1 no cost", x.cost(0), -1);
        due("1 sum", x.sum(5), 0);
        due("1 no class", x.grade(), -1);
        due("1 no rank", x.rank(), -1);
        due("1 gap", x.gap(0), 0);
        due("1 stuck", x.stuck(0), -1);
        due("1 run", x.run(), 0);
        due("1 hardest", x.hardest(), -1);
        due("1 hint", x.hint(1), -1);
        due("1 compare", x.compare(0), -2);
        due("1 same", x.same(0), false);
        x.rule(1, 1);
        x.guess(1);
        x.cls(0, 9);
        x.keep();
        GradeRows y = new GradeRows();
        due("1 objects share no rules", y.used(0, 0, 1), -1);
        due("1 objects share no steps", y.guess(1), 0);
        due("1 objects share no classes", y.cls(0, 9), 0);
        due("1 objects share no rows", y.keep(), 0);
    }

    private static void promise2Rule() {
        GradeRows x = new GradeRows();
        due("2 weight -1", x.rule(-1, 0), -1);
        due("2 weight 10001", x.rule(10001, 0), -1);
        due("2 extra -1", x.rule(0, -1), -1);
        due("2 extra 100001", x.rule(0, 100001), -1);
        due("2 far", x.rule(MIN, MAX), -1);
        due("2 least", x.rule(0, 0), 0);
        due("2 most", x.rule(10000, 100000), 1);
        for (int i = 2; i < 40; i++) {
            due("2 rule " + i, x.rule(i, i), i);
        }
        due("2 the 41st", x.rule(1, 1), -1);
        due("2 the last is there", x.used(39, 0, 8), 0);
        due("2 its cost", x.cost(0), 39 + 39);
        due("2 the 41st is not", x.used(40, 0, 8), -1);
    }

    private static void promise3Used() {
        GradeRows x = withRules();
        due("3 rule -1", x.used(-1, 0, 1), -1);
        due("3 rule 2", x.used(2, 0, 1), -1);
        due("3 place -1", x.used(0, -1, 1), -1);
        due("3 place 256", x.used(0, 256, 1), -1);
        due("3 width 0", x.used(0, 0, 0), -1);
        due("3 width 10", x.used(0, 0, 10), -1);
        due("3 far", x.used(MAX, MIN, MAX), -1);
        due("3 rule far below", x.used(MIN, 0, 1), -1);
        due("3 nothing came", x.run(), 0);
        due("3 least", x.used(0, 0, 1), 0);
        due("3 most", x.used(1, 255, 9), 1);
        for (int i = 2; i < 200; i++) {
            due("3 step " + i, x.used(0, 0, 9), i);
        }
        due("3 the 201st", x.used(0, 0, 9), -1);
        due("3 the 201st costs nothing", x.sum(MAX), 11 + 50 + 198 * 3);
        due("3 drop makes room", x.drop(), true);
        due("3 the 200th again", x.used(0, 0, 9), 199);

        GradeRows full = withRules();
        for (int i = 0; i < 200; i++) {
            full.guess(1);
        }
        due("3 refused by a full row", full.used(1, 0, 1), -1);
        due("3 refused is no use", full.hardest(), -1);
        full.drop();
        due("3 first use after a refused one", full.used(1, 0, 1), 199);
        due("3 its extra", full.cost(199), 50);
    }

    private static void promise4Guess() {
        GradeRows x = new GradeRows();
        due("4 depth 0", x.guess(0), -1);
        due("4 depth 21", x.guess(21), -1);
        due("4 depth far below", x.guess(MIN), -1);
        due("4 depth far above", x.guess(MAX), -1);
        due("4 nothing came", x.run(), 0);
        due("4 least", x.guess(1), 0);
        due("4 most", x.guess(20), 1);
        x.rule(0, 0);
        due("4 one row of numbers", x.used(0, 0, 1), 2);
        for (int i = 3; i < 200; i++) {
            due("4 step " + i, x.guess(1), i);
        }
        due("4 the 201st", x.guess(1), -1);
    }

    private static void promise5Drop() {
        GradeRows x = withRules();
        x.used(0, 1, 1);
        x.used(0, 2, 1);
        x.used(0, 3, 1);
        x.go(3);
        due("5 drop", x.drop(), true);
        x.used(0, 4, 1);
        due("5 cursor came from behind the last step", x.hint(2), 4);
        x.go(2);
        due("5 drop at the cursor", x.drop(), true);
        x.used(0, 5, 1);
        due("5 cursor stays at the dropped step", x.hint(2), 5);
        x.go(0);
        due("5 drop behind the cursor", x.drop(), true);
        due("5 cursor before it stays", x.hint(2), 1);
        due("5 drop the second", x.drop(), true);
        due("5 drop the first", x.drop(), true);
        due("5 no cost left", x.cost(0), -1);
        due("5 none left", x.drop(), false);
        due("5 still none", x.drop(), false);
        due("5 rules stay", x.used(1, 0, 1), 0);
    }

    private static void promise5DropUndoesAll() {
        GradeRows x = withRules();
        x.used(1, 7, 1);
        x.drop();
        due("5 first use is free again", x.used(1, 7, 2), 0);
        due("5 with its extra", x.cost(0), 50);
        due("5 not stuck any more", x.stuck(0), -1);
        x.guess(3);
        x.drop();
        x.guess(2);
        due("5 a dropped guess is not before", x.cost(1), 2000);
        due("5 sum", x.sum(9), 2050);
        x.drop();
        x.drop();
        due("5 no rule has a step", x.hardest(), -1);
        due("5 sum of none", x.sum(9), 0);
        x.keep();
        x.guess(1);
        x.drop();
        due("5 same as before", x.same(0), true);
        due("5 alike as before", x.compare(0), 0);
        x.used(0, 9, 1);
        x.used(0, 9, 1);
        x.drop();
        due("5 the first of two stays stuck", x.stuck(0), 9);
        x.used(1, 9, 1);
        x.used(1, 9, 1);
        x.drop();
        x.used(1, 9, 1);
        due("5 the first use stays the first", x.cost(1), 50);
        due("5 a second use costs no extra", x.cost(2), 0);
    }

    private static void promise6CostOfRules() {
        GradeRows x = new GradeRows();
        x.rule(3, 7);
        x.rule(10000, 100000);
        x.rule(1, 0);
        for (int width = 1; width <= 9; width++) {
            x.used(0, 0, width);
        }
        due("6 first", x.cost(0), 33 / 4 + 7);
        for (int width = 2; width <= 9; width++) {
            due("6 width " + width, x.cost(width - 1), 3 * (12 - width) / 4);
        }
        x.used(1, 0, 1);
        x.used(1, 0, 1);
        x.used(2, 0, 9);
        due("6 dearest", x.cost(9), 127500);
        due("6 dearest again", x.cost(10), 27500);
        due("6 less than one", x.cost(11), 0);
        due("6 behind the last", x.cost(12), -1);
        due("6 -1", x.cost(-1), -1);
        due("6 far below", x.cost(MIN), -1);
        due("6 far above", x.cost(MAX), -1);
    }

    private static void promise6CostOfGuesses() {
        GradeRows x = withRules();
        x.guess(1);
        x.guess(2);
        x.guess(20);
        x.used(0, 0, 1);
        x.guess(20);
        x.guess(1);
        due("6 guess", x.cost(0), 1000);
        due("6 guess behind a guess", x.cost(1), 4000);
        due("6 third guess in a row", x.cost(2), 40000);
        due("6 rule between", x.cost(3), 11);
        due("6 guess behind a rule", x.cost(4), 20000);
        due("6 guess behind it", x.cost(5), 2000);
    }

    private static void promise7Sum() {
        GradeRows x = withRules();
        x.used(0, 0, 2);
        x.used(1, 0, 1);
        x.guess(1);
        x.guess(1);
        due("7 of 0", x.sum(0), 0);
        due("7 of 1", x.sum(1), 10);
        due("7 of 2", x.sum(2), 60);
        due("7 of 3", x.sum(3), 1060);
        due("7 of 4", x.sum(4), 3060);
        due("7 of 5", x.sum(5), 3060);
        due("7 of very many", x.sum(MAX), 3060);
        due("7 of -1", x.sum(-1), -1);
        due("7 far below", x.sum(MIN), -1);
        GradeRows y = new GradeRows();
        for (int i = 0; i < 200; i++) {
            y.guess(20);
        }
        due("7 of 200", y.sum(200), 20000 + 199 * 40000);
        due("7 of 199", y.sum(199), 20000 + 198 * 40000);
    }

    private static void promise8Cls() {
        GradeRows x = new GradeRows();
        due("8 low -1", x.cls(-1, 5), -1);
        due("8 high below low", x.cls(5, 4), -1);
        due("8 high too high", x.cls(0, 100000001L), -1);
        due("8 far", x.cls(Long.MIN_VALUE, Long.MAX_VALUE), -1);
        due("8 far above", x.cls(Long.MAX_VALUE, Long.MAX_VALUE), -1);
        due("8 beyond int", x.cls(1L << 32, (1L << 32) + 1), -1);
        due("8 ordinary", x.cls(100, 200), 0);
        due("8 its low", x.cls(50, 100), -1);
        due("8 its high", x.cls(200, 300), -1);
        due("8 inside it", x.cls(120, 130), -1);
        due("8 round it", x.cls(50, 300), -1);
        due("8 the same", x.cls(100, 200), -1);
        due("8 right below", x.cls(99, 99), 1);
        due("8 right above", x.cls(201, 201), 2);
        due("8 least", x.cls(0, 0), 3);
        due("8 most", x.cls(100000000L, 100000000L), 4);
        for (int i = 5; i < 20; i++) {
            due("8 class " + i, x.cls(1000 * i, 1000 * i + 999), i);
        }
        due("8 the 21st", x.cls(500, 500), -1);
        due("8 the 21st has nothing", x.gap(500), 500);
    }

    private static void promise9Grade() {
        GradeRows x = withRules();
        x.cls(2000, 3000);
        x.cls(0, 10);
        x.cls(12, 22);
        due("9 of 0", x.grade(), 1);
        x.used(0, 0, 1);
        due("9 of 11", x.grade(), -1);
        x.used(0, 0, 1);
        due("9 of 22, a high", x.grade(), 2);
        x.used(0, 0, 9);
        due("9 of 25", x.grade(), -1);
        GradeRows y = new GradeRows();
        y.guess(2);
        due("9 no classes", y.grade(), -1);
        y.cls(2000, 2000);
        due("9 of 2000, a low", y.grade(), 0);
    }

    private static void promise10Rank() {
        GradeRows x = new GradeRows();
        x.cls(1000, 1500);
        due("10 of none", x.rank(), -1);
        x.cls(5000, 6000);
        x.cls(0, 10);
        due("10 lowest", x.rank(), 0);
        x.guess(1);
        due("10 one below", x.rank(), 1);
        x.cls(20, 30);
        due("10 two below", x.rank(), 2);
        x.guess(1);
        due("10 between", x.rank(), -1);
        x.guess(1);
        due("10 three below", x.rank(), 3);
        x.guess(10);
        due("10 above all", x.rank(), -1);
        GradeRows y = new GradeRows();
        y.cls(0, 999);
        y.cls(1000, 2000);
        y.guess(1);
        due("10 at a low", y.rank(), 1);
        y.drop();
        y.guess(2);
        due("10 its own class is not below", y.rank(), 1);
    }

    private static void promise11Gap() {
        GradeRows x = new GradeRows();
        due("11 no classes", x.gap(0), 0);
        due("11 -1", x.gap(-1), -1);
        due("11 far below", x.gap(Long.MIN_VALUE), -1);
        due("11 far above", x.gap(Long.MAX_VALUE), Long.MAX_VALUE);
        x.cls(20, 29);
        x.cls(0, 9);
        x.cls(10, 19);
        x.cls(31, 40);
        x.cls(99999999L, 100000000L);
        due("11 over three", x.gap(0), 30);
        due("11 from a high", x.gap(9), 30);
        due("11 a gap of one", x.gap(30), 30);
        due("11 from a low", x.gap(31), 41);
        due("11 free itself", x.gap(41), 41);
        due("11 right below the last", x.gap(99999998L), 99999998L);
        due("11 over the last", x.gap(99999999L), 100000001L);
        due("11 above every class", x.gap(100000001L), 100000001L);
        due("11 beyond int", x.gap(1L << 40), 1L << 40);
        GradeRows y = new GradeRows();
        for (int i = 19; i >= 0; i--) {
            y.cls(i, i);
        }
        due("11 over twenty", y.gap(0), 20);
        due("11 from the last of twenty", y.gap(19), 20);
    }

    private static void promise12Stuck() {
        GradeRows x = withRules();
        x.used(0, 30, 1);
        x.used(0, 20, 2);
        x.guess(1);
        x.used(1, 10, 1);
        x.used(1, 30, 1);
        x.used(1, 20, 1);
        x.used(0, 10, 1);
        x.used(0, 0, 1);
        x.used(0, 255, 1);
        due("12 first", x.stuck(0), 30);
        due("12 second", x.stuck(1), 10);
        due("12 third", x.stuck(2), 20);
        due("12 place 0, no matter that a guess came", x.stuck(3), 0);
        due("12 place 255", x.stuck(4), 255);
        due("12 no more", x.stuck(5), -1);
        due("12 -1", x.stuck(-1), -1);
        due("12 far below", x.stuck(MIN), -1);
        due("12 far above", x.stuck(MAX), -1);
        GradeRows y = new GradeRows();
        y.guess(1);
        due("12 a guess of depth 1 has no place", y.stuck(0), -1);
    }

    private static void promise13Run() {
        GradeRows x = withRules();
        x.used(0, 0, 5);
        due("13 one", x.run(), 1);
        x.used(0, 0, 5);
        due("13 alike", x.run(), 2);
        x.used(0, 0, 4);
        due("13 more", x.run(), 3);
        x.used(0, 0, 5);
        due("13 less", x.run(), 3);
        x.used(0, 0, 4);
        x.used(0, 0, 3);
        due("13 as long", x.run(), 3);
        x.guess(1);
        due("13 a longer one behind", x.run(), 4);
        x.guess(1);
        due("13 guesses too", x.run(), 5);
        x.drop();
        x.drop();
        due("13 dropped", x.run(), 3);
        x.used(0, 0, 9);
        x.used(0, 0, 8);
        due("13 not over a fall", x.run(), 3);
    }

    private static void promise14Hardest() {
        GradeRows x = new GradeRows();
        x.rule(0, 0);
        x.rule(4, 0);
        x.rule(4, 0);
        x.rule(10000, 100000);
        x.guess(20);
        due("14 guesses alone", x.hardest(), -1);
        x.used(0, 0, 1);
        due("14 one of cost 0", x.hardest(), 0);
        x.used(2, 0, 2);
        due("14 dearer", x.hardest(), 2);
        x.used(1, 0, 7);
        due("14 less", x.hardest(), 2);
        x.used(1, 0, 7);
        due("14 alike: the least", x.hardest(), 1);
        x.used(2, 0, 9);
        due("14 together", x.hardest(), 2);
        x.drop();
        due("14 dropped", x.hardest(), 1);
        x.used(3, 0, 1);
        due("14 with its extra", x.hardest(), 3);
        x.drop();
        due("14 no step any more", x.hardest(), 1);
    }

    private static void promise15Go() {
        GradeRows x = withRules();
        due("15 behind the last of none", x.go(0), true);
        due("15 none there", x.go(1), false);
        x.used(0, 40, 1);
        x.used(0, 50, 1);
        due("15 to 1", x.go(1), true);
        due("15 at 1", x.hint(2), 50);
        due("15 -1", x.go(-1), false);
        due("15 too far", x.go(3), false);
        due("15 far below", x.go(MIN), false);
        due("15 far above", x.go(MAX), false);
        due("15 a refused go moves nothing", x.hint(2), 50);
        due("15 to 0", x.go(0), true);
        due("15 at 0", x.hint(2), 40);
        due("15 behind the last", x.go(2), true);
        due("15 none there yet", x.hint(2), -1);
        x.used(0, 60, 1);
        due("15 now one is there", x.hint(2), 60);
    }

    private static void promise16Hint() {
        GradeRows x = withRules();
        due("16 no step", x.hint(4), -1);
        x.used(1, 255, 9);
        x.guess(20);
        x.used(0, 15, 3);
        due("16 degree 1", x.hint(1), 15);
        due("16 degree 2", x.hint(2), 255);
        due("16 degree 3", x.hint(3), 1);
        due("16 degree 0", x.hint(0), -1);
        due("16 degree 5", x.hint(5), -1);
        due("16 far below", x.hint(MIN), -1);
        due("16 far above", x.hint(MAX), -1);
        due("16 degree 4", x.hint(4), 9);
        due("16 guess 1", x.hint(1), -2);
        due("16 guess 2", x.hint(2), -2);
        due("16 guess 3", x.hint(3), -2);
        due("16 guess 0", x.hint(0), -1);
        due("16 guess 5", x.hint(5), -1);
        due("16 guess 4", x.hint(4), 20);
        due("16 place 15 divided", x.hint(1), 0);
        due("16 rule 0", x.hint(3), 0);
        due("16 width 3", x.hint(4), 3);
        due("16 behind the last", x.hint(3), -1);
        x.used(0, 16, 1);
        due("16 place 16 divided", x.hint(1), 1);
    }

    private static void promise16HintMovesTheCursor() {
        GradeRows x = withRules();
        x.hint(4);
        x.used(0, 11, 1);
        due("16 no hint, no move at first", x.hint(2), 11);
        x.hint(4);
        due("16 behind the last", x.hint(4), -1);
        due("16 again", x.hint(4), -1);
        x.used(0, 12, 2);
        due("16 no hint, no move", x.hint(2), 12);
        x.hint(5);
        due("16 no degree, no move", x.hint(4), 2);
        due("16 moved", x.hint(2), -1);
    }

    private static void promise17Keep() {
        GradeRows x = withRules();
        due("17 none kept", x.compare(0), -2);
        x.guess(1);
        due("17 first", x.keep(), 0);
        due("17 steps stay", x.cost(0), 1000);
        x.guess(1);
        for (int i = 1; i < 10; i++) {
            due("17 row " + i, x.keep(), i);
        }
        due("17 the 11th", x.keep(), -1);
        due("17 the 11th again", x.keep(), -1);
        due("17 nor is it there", x.compare(10), -2);
        due("17 nor has it steps", x.same(10), false);
        due("17 row 0 is as it was", x.same(0), false);
        due("17 row 9 is of now", x.same(9), true);
        x.drop();
        due("17 row 0 again", x.same(0), true);
        due("17 row 9 has what was dropped", x.same(9), false);
        due("17 row 9 is harder", x.compare(9), -1);
    }

    private static void promise18CompareBySumsAndCounts() {
        GradeRows x = withRules();
        x.rule(8, 0);
        x.keep();
        x.used(0, 0, 8);
        x.used(0, 0, 8);
        x.keep();
        due("18 harder than none", x.compare(0), 1);
        due("18 alike", x.compare(1), 0);
        due("18 no row 2", x.compare(2), -2);
        due("18 row -1", x.compare(-1), -2);
        due("18 row 10", x.compare(10), -2);
        due("18 far below", x.compare(MIN), -2);
        due("18 far above", x.compare(MAX), -2);
        x.drop();
        due("18 less", x.compare(1), -1);
        x.used(0, 9, 7);
        due("18 more", x.compare(1), 1);
        x.drop();
        x.drop();
        x.used(2, 0, 8);
        due("18 alike sums, fewer steps", x.compare(1), -1);
        x.keep();
        x.drop();
        x.used(0, 0, 8);
        x.used(0, 0, 8);
        due("18 alike sums, more steps", x.compare(2), 1);
        x.used(0, 0, 9);
        x.keep();
        for (int i = 0; i < 3; i++) {
            x.drop();
        }
        x.used(2, 0, 6);
        due("18 sums go before counts", x.compare(3), 1);
    }

    /** Rule 0's steps cost 3 (width 9) to 11 (width 1). */
    private static void promise18CompareByCosts() {
        GradeRows x = withRules();
        steps(x, 9, 2, 6);
        x.keep();
        steps(x, 2, 6, 9);
        due("18 any order", x.compare(0), 0);
        steps(x, 8, 3, 6);
        due("18 the dearest is less", x.compare(0), -1);
        steps(x, 8, 8, 1);
        due("18 the dearest is more", x.compare(0), 1);
        steps(x, 9, 3, 5);
        due("18 less, though the next are more", x.compare(0), -1);
        steps(x, 7, 8, 2);
        due("18 the dearest but one is less", x.compare(0), -1);
        x.keep();
        steps(x, 9, 2, 6);
        due("18 the dearest but one is more", x.compare(1), 1);
        GradeRows y = withRules();
        y.used(0, 0, 1);
        y.keep();
        y.drop();
        y.rule(4, 0);
        y.used(2, 99, 1);
        due("18 other steps of the same costs", y.compare(0), 0);
        due("18 are not the same", y.same(0), false);
    }

    private static void steps(GradeRows x, int first, int second, int third) {
        dropAll(x);
        x.used(0, 0, first);
        x.used(0, 0, second);
        x.used(0, 0, third);
    }

    private static void promise19Same() {
        GradeRows x = withRules();
        due("19 none kept", x.same(0), false);
        x.keep();
        due("19 none and none", x.same(0), true);
        x.used(0, 1, 2);
        x.guess(1);
        x.used(1, 1, 2);
        x.guess(1);
        x.keep();
        due("19 not none", x.same(0), false);
        due("19 row -1", x.same(-1), false);
        due("19 row 2", x.same(2), false);
        due("19 far below", x.same(MIN), false);
        due("19 far above", x.same(MAX), false);
        sameAs(x, "another order, other costs", 0, 1, 2, true);
        sameAs(x, "another rule", 1, 1, 2, false);
        sameAs(x, "another place", 0, 2, 2, false);
        sameAs(x, "another width", 0, 1, 3, false);
        x.drop();
        due("19 one less", x.same(1), false);
        x.used(0, 1, 2);
        x.used(0, 1, 2);
        due("19 one twice", x.same(1), false);
        GradeRows y = new GradeRows();
        y.guess(1);
        y.guess(2);
        y.keep();
        y.drop();
        y.guess(1);
        due("19 another depth", y.same(0), false);
        y.drop();
        y.drop();
        y.guess(2);
        y.guess(1);
        due("19 guesses turned round", y.same(0), true);
        due("19 though the costs differ", y.compare(0), -1);
        GradeRows z = withRules();
        z.used(0, 1, 1);
        z.keep();
        z.drop();
        z.used(1, 0, 1);
        due("19 rule and place changed about", z.same(0), false);
        z.drop();
        z.used(0, 0, 9);
        due("19 a place less and a width more", z.same(0), false);
    }

    private static void promise18And19FullRows() {
        GradeRows x = withRules();
        for (int i = 0; i < 199; i++) {
            x.used(0, i, 1 + i % 9);
        }
        x.used(0, 255, 1);
        x.keep();
        due("18 two full rows", x.compare(0), 0);
        due("19 two full rows", x.same(0), true);
        x.drop();
        x.used(0, 254, 1);
        due("18 full, alike costs", x.compare(0), 0);
        due("19 full, another place", x.same(0), false);
        x.drop();
        x.drop();
        x.used(0, 255, 1);
        x.used(0, 198, 1);
        due("19 full, the last two turned round", x.same(0), true);
        x.drop();
        x.used(0, 198, 2);
        due("18 full, one cheaper", x.compare(0), -1);
    }

    /** The kept row's steps turned round, with the given one in the place of its first. */
    private static void sameAs(GradeRows x, String how, int rule, int place, int width, boolean want) {
        dropAll(x);
        x.guess(1);
        x.guess(1);
        x.used(1, 1, 2);
        x.used(rule, place, width);
        due("19 " + how, x.same(1), want);
    }

    private static void exampleOfTheReadme() {
        GradeRows rows = new GradeRows();
        int single = rows.rule(40, 100);
        due("README rule", single, 0);
        due("README used", rows.used(single, 17, 1), 0);
        due("README guess", rows.guess(2), 1);
        due("README sum", rows.sum(2), 210 + 2000);
        due("README cls", rows.cls(0, 5000), 0);
        due("README grade", rows.grade(), 0);
        due("README hint", rows.hint(1), 1);
        int row = rows.keep();
        due("README keep", row, 0);
        due("README drop", rows.drop(), true);
        due("README compare", rows.compare(row), -1);
    }
}
