import java.util.List;

/** Counts the answers that are not as due; a test ends by finish(). */
final class Answers {
    private final String test;
    private int looked = 0;
    private int wrong = 0;

    Answers(String test) {
        this.test = test;
    }

    void due(String call, long got, long want) {
        looked++;
        if (got != want) {
            wrong++;
            System.out.println(test + ": " + call + " answered " + got + ", due is " + want);
        }
    }

    void due(String call, boolean got, boolean want) {
        due(call, got ? 1L : 0L, want ? 1L : 0L);
    }

    /** Two views of an object: only the first call that tells them apart is told. */
    void due(String when, List<String> got, List<String> want) {
        looked++;
        if (got.equals(want)) {
            return;
        }
        wrong++;
        int at = 0;
        while (at < got.size() && at < want.size() && got.get(at).equals(want.get(at))) {
            at++;
        }
        System.out.println(test + ": " + when + ", then " + got.subList(at, Math.min(at + 1, got.size()))
            + ", due is " + want.subList(at, Math.min(at + 1, want.size())));
    }

    void finish() {
        System.out.println(test + ": " + looked + " answers, " + wrong + " not as due");
        if (wrong != 0 || looked == 0) {
            System.exit(1);
        }
    }
}
