/** Promises 8 to 11: each boundary that a sentence names, on both sides, and what later calls show. */
public final class ClassEdgesTest {
    private static final Answers ANSWERS = new Answers("ClassEdgesTest");
    private static final long MOST = 100000000L;

    public static void main(String[] args) {
        clsLow();
        clsHighAgainstLow();
        clsHigh();
        clsFarNumbers();
        clsAtALow();
        clsAtAHigh();
        clsInsideAndRound();
        clsBetweenTwo();
        clsTwentieth();
        gradeAtBothEnds();
        gradeOfNone();
        gradeOfTheTwentieth();
        rankAtBothEnds();
        rankOfNone();
        rankOverNineteen();
        gapBelowZero();
        gapAtBothEnds();
        gapOverNeighbours();
        gapAboveAll();
        ANSWERS.finish();
    }

    private static void due(String call, long got, long want) {
        ANSWERS.due(call, got, want);
    }

    /** Steps that cost 1 each, with as many of them as the sum is to be. */
    private static GradeRows withSum(int sum) {
        GradeRows x = new GradeRows();
        x.rule(1, 0);
        for (int i = 0; i < sum; i++) {
            x.used(0, 0, 8);
        }
        return x;
    }

    private static void clsLow() {
        GradeRows x = new GradeRows();
        due("8 low -1", x.cls(-1, 0), -1);
        due("8 low -1 and high -1", x.cls(-1, -1), -1);
        due("8 it has nothing", x.gap(0), 0);
        due("8 low 0", x.cls(0, 0), 0);
        due("8 it has 0 alone", x.gap(0), 1);
        due("8 low 1", x.cls(1, 1), 1);
    }

    private static void clsHighAgainstLow() {
        GradeRows x = new GradeRows();
        due("8 high one below", x.cls(500, 499), -1);
        due("8 high far below", x.cls(500, -1), -1);
        due("8 it has nothing", x.gap(500), 500);
        due("8 nor below", x.gap(499), 499);
        due("8 high is low", x.cls(500, 500), 0);
        due("8 high one above", x.cls(501, 502), 1);
    }

    private static void clsHigh() {
        GradeRows x = new GradeRows();
        due("8 high 100,000,001", x.cls(7, MOST + 1), -1);
        due("8 it has nothing", x.gap(7), 7);
        due("8 high 100,000,000", x.cls(7, MOST), 0);
        due("8 low above the most", x.cls(MOST + 1, MOST + 1), -1);
        GradeRows y = new GradeRows();
        due("8 the most alone", y.cls(MOST, MOST), 0);
        due("8 right below the most", y.cls(MOST - 1, MOST - 1), 1);
        GradeRows z = new GradeRows();
        due("8 all", z.cls(0, MOST), 0);
        due("8 no other beside it", z.cls(50, 50), -1);
    }

    /** Numbers that look like good ones when they are cut to 32 bits. */
    private static void clsFarNumbers() {
        GradeRows x = new GradeRows();
        due("8 high wraps to 9", x.cls(0, (1L << 32) + 9), -1);
        due("8 both wrap", x.cls(1L << 32, (1L << 32) + 9), -1);
        due("8 low wraps to 0", x.cls(-(1L << 32), 9), -1);
        due("8 from the least", x.cls(Long.MIN_VALUE, 9), -1);
        due("8 to the greatest", x.cls(0, Long.MAX_VALUE), -1);
        due("8 the greatest alone", x.cls(Long.MAX_VALUE, Long.MAX_VALUE), -1);
        due("8 the least alone", x.cls(Long.MIN_VALUE, Long.MIN_VALUE), -1);
        due("8 the greatest to the least", x.cls(Long.MAX_VALUE, Long.MIN_VALUE), -1);
        due("8 none has 0", x.grade(), -1);
        due("8 the first that is taken is 0", x.cls(0, 9), 0);
    }

    private static void clsAtALow() {
        GradeRows x = new GradeRows();
        x.cls(100, 200);
        due("8 up to its low", x.cls(90, 100), -1);
        due("8 its low alone", x.cls(100, 100), -1);
        due("8 90 stays free", x.gap(90), 90);
        due("8 up to right below its low", x.cls(90, 99), 1);
        due("8 now 90 is not", x.gap(90), 201);
    }

    private static void clsAtAHigh() {
        GradeRows x = new GradeRows();
        x.cls(100, 200);
        due("8 from its high on", x.cls(200, 210), -1);
        due("8 its high alone", x.cls(200, 200), -1);
        due("8 201 stays free", x.gap(150), 201);
        due("8 from right above its high on", x.cls(201, 210), 1);
        due("8 now 201 is not", x.gap(150), 211);
    }

    private static void clsInsideAndRound() {
        GradeRows x = new GradeRows();
        x.cls(100, 200);
        due("8 the same", x.cls(100, 200), -1);
        due("8 inside", x.cls(101, 199), -1);
        due("8 one inside", x.cls(150, 150), -1);
        due("8 round", x.cls(99, 201), -1);
        due("8 from its low to above", x.cls(100, 201), -1);
        due("8 from below to its high", x.cls(99, 200), -1);
        due("8 round all", x.cls(0, MOST), -1);
        due("8 99 stays free", x.gap(99), 99);
        due("8 no number was taken", x.cls(0, 1), 1);
    }

    private static void clsBetweenTwo() {
        GradeRows x = new GradeRows();
        x.cls(30, 39);
        x.cls(10, 19);
        due("8 touches the lower", x.cls(19, 29), -1);
        due("8 touches the upper", x.cls(20, 30), -1);
        due("8 touches both", x.cls(19, 30), -1);
        due("8 fits", x.cls(20, 29), 2);
        due("8 taken now", x.cls(25, 25), -1);
    }

    private static void clsTwentieth() {
        GradeRows x = new GradeRows();
        for (int i = 0; i < 19; i++) {
            due("8 class " + i, x.cls(1000 - 10 * i, 1005 - 10 * i), i);
        }
        due("8 the 20th is refused by its low", x.cls(1005, 1006), -1);
        due("8 the 20th", x.cls(2000, 2001), 19);
        due("8 the 21st", x.cls(0, 0), -1);
        due("8 the 21st has nothing", x.grade(), -1);
        due("8 nor later", x.gap(0), 0);
        due("8 the 20th has its sums", x.gap(2000), 2002);
        due("8 and the first", x.gap(1000), 1006);
    }

    private static void gradeAtBothEnds() {
        int[][] rows = {{9, -1}, {10, 1}, {11, 1}, {19, 1}, {20, 1}, {21, -1}, {29, -1}, {30, 0}, {40, 0}, {41, 2}};
        for (int[] row : rows) {
            GradeRows x = withSum(row[0]);
            x.cls(30, 40);
            x.cls(10, 20);
            x.cls(41, 41);
            due("9 grade of " + row[0], x.grade(), row[1]);
        }
        GradeRows x = withSum(0);
        x.cls(1, 9);
        due("9 0 without a class", x.grade(), -1);
        x.cls(0, 0);
        due("9 0 with its class", x.grade(), 1);
    }

    private static void gradeOfNone() {
        GradeRows x = withSum(5);
        due("9 no classes", x.grade(), -1);
        x.cls(0, 4);
        due("9 right above", x.grade(), -1);
        x.cls(6, 9);
        due("9 between", x.grade(), -1);
        x.cls(5, 6);
        due("9 a refused class has it not", x.grade(), -1);
        x.cls(5, 5);
        due("9 now one has it", x.grade(), 2);
        x.drop();
        due("9 after a drop", x.grade(), 0);
        x.used(0, 0, 8);
        x.used(0, 0, 8);
        due("9 after more", x.grade(), 1);
    }

    private static void gradeOfTheTwentieth() {
        GradeRows x = withSum(19);
        for (int i = 0; i < 20; i++) {
            x.cls(i, i);
        }
        due("9 of the 20th", x.grade(), 19);
        x.used(0, 0, 8);
        due("9 above all", x.grade(), -1);
        x.cls(20, 20);
        due("9 the 21st does not count", x.grade(), -1);
    }

    private static void rankAtBothEnds() {
        int[][] rows = {{9, -1}, {10, 0}, {20, 0}, {21, 1}, {25, 1}, {26, -1}, {30, 2}, {40, 2}, {41, -1}};
        for (int[] row : rows) {
            GradeRows x = withSum(row[0]);
            x.cls(30, 40);
            x.cls(10, 20);
            x.cls(21, 25);
            due("10 rank of " + row[0], x.rank(), row[1]);
        }
    }

    private static void rankOfNone() {
        GradeRows x = withSum(5);
        due("10 no classes", x.rank(), -1);
        x.cls(0, 4);
        due("10 one below, but of none", x.rank(), -1);
        x.cls(6, 9);
        due("10 between, but of none", x.rank(), -1);
        x.cls(4, 5);
        due("10 a refused class has it not", x.rank(), -1);
        x.cls(5, 5);
        due("10 now one has it", x.rank(), 1);
        x.drop();
        due("10 the lowest", x.rank(), 0);
    }

    private static void rankOverNineteen() {
        GradeRows x = withSum(19);
        for (int i = 19; i >= 0; i--) {
            x.cls(i, i);
        }
        due("10 over nineteen", x.rank(), 19);
        x.drop();
        due("10 over eighteen", x.rank(), 18);
        GradeRows y = withSum(0);
        for (int i = 19; i >= 0; i--) {
            y.cls(i, i);
        }
        due("10 under nineteen", y.rank(), 0);
    }

    private static void gapBelowZero() {
        GradeRows x = new GradeRows();
        due("11 -1 without classes", x.gap(-1), -1);
        due("11 0 without classes", x.gap(0), 0);
        x.cls(0, 5);
        due("11 -1", x.gap(-1), -1);
        due("11 far below", x.gap(Long.MIN_VALUE), -1);
        due("11 wraps to 0", x.gap(-(1L << 32)), -1);
        due("11 0", x.gap(0), 6);
    }

    private static void gapAtBothEnds() {
        GradeRows x = new GradeRows();
        x.cls(10, 20);
        due("11 right below the low", x.gap(9), 9);
        due("11 the low", x.gap(10), 21);
        due("11 inside", x.gap(15), 21);
        due("11 the high", x.gap(20), 21);
        due("11 right above the high", x.gap(21), 21);
        x.cls(20, 30);
        due("11 a refused class has nothing", x.gap(21), 21);
        x.cls(22, 30);
        due("11 a gap of one", x.gap(10), 21);
        x.cls(21, 21);
        due("11 it is filled", x.gap(10), 31);
    }

    private static void gapOverNeighbours() {
        GradeRows x = new GradeRows();
        for (int i = 0; i < 20; i++) {
            int low = 10 * (i * 7 % 20);
            due("11 class " + i, x.cls(low, low + 9), i);
        }
        due("11 over all twenty", x.gap(0), 200);
        due("11 over nineteen", x.gap(10), 200);
        due("11 over the last", x.gap(199), 200);
        due("11 over none", x.gap(200), 200);
        GradeRows y = new GradeRows();
        for (int i = 19; i >= 0; i--) {
            y.cls(2L * i, 2L * i);
        }
        due("11 over one of twenty", y.gap(0), 1);
        due("11 over one in the midst", y.gap(20), 21);
        due("11 over the last of twenty", y.gap(38), 39);
    }

    private static void gapAboveAll() {
        GradeRows x = new GradeRows();
        x.cls(0, MOST);
        due("11 from 0 over all", x.gap(0), MOST + 1);
        due("11 from the most", x.gap(MOST), MOST + 1);
        due("11 right above the most", x.gap(MOST + 1), MOST + 1);
        due("11 wraps to 5", x.gap((1L << 32) + 5), (1L << 32) + 5);
        due("11 the greatest", x.gap(Long.MAX_VALUE), Long.MAX_VALUE);
        GradeRows y = new GradeRows();
        due("11 the greatest without classes", y.gap(Long.MAX_VALUE), Long.MAX_VALUE);
    }
}
