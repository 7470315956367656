import java.util.NoSuchElementException;

/** Promises 25 to 28: how often the intervals of a question contain a value. */
final class CoverageTest {
    private static final int[] NO_VALUES = {-1, 1000, Integer.MIN_VALUE, Integer.MAX_VALUE};

    public static void main(String[] args) {
        coverageCountsEnds();
        mostCoveredTakesTheLeast();
        wordEdges();
        questionsAreApart();
        settledAndWithdrawnDoNotCount();
        queriesRefuse();
        Check.finish();
    }

    private static void most(int value, int covered, int... ends) {
        EstimateContest contest = Scenes.intervals(ends);
        Check.same("mostCovered", contest.mostCovered(0), value);
        Check.same("mostCoveredBySweep", contest.mostCoveredBySweep(0), value);
        Check.same("coveredValues", contest.coveredValues(0), covered);
        int[] dueCoverage = new int[1000];
        for (int i = 0; i < ends.length; i += 2) {
            for (int v = ends[i]; v <= ends[i + 1]; v++) {
                dueCoverage[v]++;
            }
        }
        for (int start = 0; start < 1000; start += 250) {
            EstimateContest asked = Scenes.intervals(ends);
            boolean agrees = true;
            for (int v = start; v < start + 250; v++) {
                agrees &= asked.coverage(0, v) == dueCoverage[v];
            }
            Check.same("coverage", agrees, true);
        }
        Check.same("isConsistent", contest.isConsistent(), true);
    }

    private static void coverageCountsEnds() {
        EstimateContest contest = Scenes.intervals(10, 20, 20, 30);
        int[] values = {0, 9, 10, 19, 20, 21, 30, 31, 999};
        int[] due = {0, 0, 1, 1, 2, 1, 1, 0, 0};
        for (int i = 0; i < values.length; i++) {
            Check.same("coverage " + values[i], contest.coverage(0, values[i]), due[i]);
        }
    }

    private static void mostCoveredTakesTheLeast() {
        most(0, 1, 0, 0);
        most(999, 1, 999, 999);
        most(0, 1000, 0, 999);
        most(3, 4, 8, 9, 3, 4);
        most(20, 21, 10, 20, 20, 30);
        most(10, 22, 10, 20, 21, 31);
        most(290, 900, 100, 300, 250, 400, 290, 999);
        most(0, 1000, 0, 999, 0, 999, 0, 999, 0, 999, 0, 999);
        most(500, 5, 500, 500, 504, 504, 502, 502, 501, 501, 503, 503);
        most(24, 18, 0, 3, 10, 12, 20, 30, 22, 30, 24, 30);
        most(40, 91, 0, 50, 10, 60, 20, 70, 30, 80, 40, 90);
        most(40, 91, 40, 90, 30, 80, 20, 70, 10, 60, 0, 50);
        most(750, 1000, 0, 999, 100, 200, 700, 900, 300, 400, 750, 800);
    }

    private static void wordEdges() {
        most(63, 2, 63, 64);
        most(64, 128, 0, 127, 64, 64);
        most(127, 64, 127, 190, 127, 128);
        most(128, 129, 0, 128, 128, 128);
        most(959, 41, 959, 999);
        most(960, 40, 960, 999, 960, 960);
        for (int value = 0; value < 1000; value += 31) {
            most(value, 1000, 0, 999, value, value);
        }
    }

    /** All five share a value of the question 0, no two share one of the question 1. */
    private static void questionsAreApart() {
        EstimateContest contest = Scenes.intervals(500, 510, 500, 520, 490, 500, 500, 500, 0, 999);
        contest.openQuestion(1);
        for (int player = 0; player < 5; player++) {
            contest.estimate(player, 1, 20 * player + 3, 20 * player + 12, 5, 1);
        }
        for (int round = 0; round < 2; round++) {
            Check.same("mostCovered", contest.mostCovered(0), 500);
            Check.same("mostCovered", contest.mostCovered(1), 3);
            Check.same("mostCoveredBySweep", contest.mostCoveredBySweep(0), 500);
            Check.same("mostCoveredBySweep", contest.mostCoveredBySweep(1), 3);
            Check.same("coveredValues", contest.coveredValues(0), 1000);
            Check.same("coveredValues", contest.coveredValues(1), 50);
            Check.same("isConsistent", contest.isConsistent(), true);
        }
    }

    private static void settledAndWithdrawnDoNotCount() {
        EstimateContest contest = Scenes.intervals(5, 7, 6, 9);
        contest.withdraw(1);
        Check.same("mostCovered", contest.mostCovered(0), 5);
        Check.same("coverage", contest.coverage(0, 6), 1);
        Check.same("coveredValues", contest.coveredValues(0), 3);
        contest.withdraw(0);
        Check.same("none left", contest.coveredValues(0), 0);
        Check.fails("none left", NoSuchElementException.class, () -> contest.mostCovered(0));
        contest.settle(6);
        Check.fails("settled", NoSuchElementException.class, () -> contest.coveredValues(0));
    }

    private static void queriesRefuse() {
        Class<NoSuchElementException> due = NoSuchElementException.class;
        for (int question : Scenes.ABSENT_QUESTIONS) {
            Check.refused("coverage", due, Scenes::busy, c -> c.coverage(question, 0));
            Check.refused("question before value", due, Scenes::busy, c -> c.coverage(question, 1000));
            Check.refused("mostCovered", due, Scenes::busy, c -> c.mostCovered(question));
            Check.refused("mostCoveredBySweep", due, Scenes::busy, c -> c.mostCoveredBySweep(question));
            Check.refused("coveredValues", due, Scenes::busy, c -> c.coveredValues(question));
        }
        Check.refused("mostCovered of none", due, Scenes::busy, c -> c.mostCovered(3));
        Check.refused("mostCoveredBySweep of none", due, Scenes::busy, c -> c.mostCoveredBySweep(3));
        for (int value : NO_VALUES) {
            Check.refused("coverage " + value, IllegalArgumentException.class, Scenes::busy, c -> c.coverage(1, value));
        }
    }
}
