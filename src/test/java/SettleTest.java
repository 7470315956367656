import java.util.NoSuchElementException;

/** Promises 5, 11 and 29 to 34: settling, the house, true values and scores. */
final class SettleTest {
    public static void main(String[] args) {
        settlePaysAndScores();
        hitsIncludeBothEnds();
        scoresRoundTheQuotientAlone();
        scoresOverAllConfidences();
        hitsOverAllConfidences();
        settleTakesTheFirst();
        settleTakesTheEdges();
        settleRefuses();
        houseCanOweCoins();
        recentTruthsAreFive();
        undoBringsBackTheDisplacedTruth();
        meanScoreDivides();
        queriesRefuse();
        Check.finish();
    }

    private static EstimateContest settled(int weight, int low, int high, int confidence, int stake, int truth) {
        EstimateContest contest = new EstimateContest();
        contest.addPlayer();
        contest.openQuestion(weight);
        contest.estimate(0, 0, low, high, confidence, stake);
        contest.settle(truth);
        return contest;
    }

    private static void settlePaysAndScores() {
        EstimateContest contest = new EstimateContest();
        Scenes.players(contest, 4);
        contest.openQuestion(3);
        contest.estimate(2, 0, 10, 20, 3, 10);
        contest.estimate(0, 0, 30, 35, 7, 20);
        contest.estimate(1, 0, 0, 999, 9, 9);
        Check.same("settle", contest.settle(25), 1);
        Check.same("coins of a miss", contest.coins(2), 90);
        Check.same("coins of a miss", contest.coins(0), 80);
        Check.same("coins of a hit", contest.coins(1), 101);
        Check.same("coins of none", contest.coins(3), 100);
        Check.same("house", contest.houseCoins(), 29);
        Check.same("score", contest.score(2), 3 * (10 + 100 / 7));
        Check.same("score", contest.score(0), 3 * (5 + 100 / 3));
        Check.same("score", contest.score(1), 3 * 999);
        Check.same("score of none", contest.score(3), 0);
        for (int player = 0; player < 4; player++) {
            Check.same("settledEstimates", contest.settledEstimates(player), player < 3 ? 1 : 0);
            Check.same("hits", contest.hits(player), player == 1 ? 1 : 0);
        }
        contest.openQuestion(1);
        contest.estimate(1, 1, 500, 510, 9, 9);
        Check.same("settle again", contest.settle(521), 0);
        Check.same("scores add up", contest.score(1), 2997 + 10 + 220);
        Check.same("settledEstimates", contest.settledEstimates(1), 2);
        Check.same("hits", contest.hits(1), 1);
    }

    private static void hitsIncludeBothEnds() {
        int[] truths = {99, 100, 101, 200, 201};
        int[] hits = {0, 1, 1, 1, 0};
        for (int i = 0; i < truths.length; i++) {
            EstimateContest contest = settled(1, 100, 200, 5, 1, truths[i]);
            Check.same("hits of " + truths[i], contest.hits(0), hits[i]);
            Check.same("house of " + truths[i], contest.houseCoins(), hits[i] == 1 ? -1 : 1);
            Check.same("score of " + truths[i], contest.score(0), hits[i] == 1 ? 100 : 104);
        }
    }

    private static void scoresRoundTheQuotientAlone() {
        Check.same("weight 3", settled(3, 0, 9, 1, 1, 10).score(0), 3 * (9 + 20 / 9));
        Check.same("weight 2", settled(2, 0, 9, 4, 1, 11).score(0), 2 * (9 + 40 / 6));
        Check.same("below", settled(2, 50, 50, 3, 1, 45).score(0), 2 * (100 / 7));
        Check.same("farthest", settled(3, 0, 0, 9, 1, 999).score(0), 3 * 19980);
        Check.same("farthest below", settled(3, 999, 999, 9, 1, 0).score(0), 3 * 19980);
        Check.same("best", settled(3, 7, 7, 9, 1, 7).score(0), 0);
    }

    private static void scoresOverAllConfidences() {
        for (int confidence = 1; confidence <= 9; confidence++) {
            for (int distance = 0; distance < 10; distance++) {
                int due = 5 + 20 * distance / (10 - confidence);
                Check.same("above", settled(1, 100, 105, confidence, 1, 105 + distance).score(0), due);
                Check.same("below", settled(1, 100, 105, confidence, 1, 100 - distance).score(0), due);
            }
        }
    }

    private static void hitsOverAllConfidences() {
        for (int confidence = 1; confidence <= 9; confidence++) {
            EstimateContest hit = settled(1, 5, 5, confidence, 1, 5);
            EstimateContest miss = settled(1, 5, 5, confidence, 1, 6);
            Check.same("hits", hit.hits(0), 1);
            Check.same("no hits", miss.hits(0), 0);
            Check.same("settledEstimates", hit.settledEstimates(0), 1);
            Check.same("settledEstimates", miss.settledEstimates(0), 1);
            Check.same("error of a hit", hit.calibrationError(0), 10 - confidence);
            Check.same("error of a miss", miss.calibrationError(0), confidence);
        }
    }

    private static void settleTakesTheFirst() {
        EstimateContest contest = new EstimateContest();
        Scenes.players(contest, 1);
        Scenes.questions(contest, 3);
        contest.estimate(0, 1, 0, 0, 5, 7);
        Check.same("settle", contest.settle(0), 0);
        Check.same("openCount", contest.openCount(), 2);
        Check.same("questionAt", contest.questionAt(0), 1);
        Check.same("stake is still out", contest.stakedCoins(), 7);
        Check.fails("weight", NoSuchElementException.class, () -> contest.weight(0));
        Check.same("settle", contest.settle(0), 1);
        Check.same("settledQuestions", contest.settledQuestions(), 2);
        Check.same("questionAt", contest.questionAt(0), 2);
    }

    private static void settleTakesTheEdges() {
        EstimateContest contest = new EstimateContest();
        Scenes.questions(contest, 2);
        Check.same("settle 0", contest.settle(0), 0);
        Check.same("settle 999", contest.settle(999), 0);
        Check.same("recentTruth", contest.recentTruth(0), 999);
        Check.same("recentTruth", contest.recentTruth(1), 0);
    }

    private static void settleRefuses() {
        for (int truth : new int[] {-1, 1000, Integer.MIN_VALUE, Integer.MAX_VALUE}) {
            Check.refused("settle " + truth, IllegalArgumentException.class, Scenes::busy, c -> c.settle(truth));
            Check.refused("range first", IllegalArgumentException.class, Scenes::empty, c -> c.settle(truth));
        }
        Check.refused("settle", NoSuchElementException.class, Scenes::empty, c -> c.settle(0));
        Check.refused("settle", NoSuchElementException.class, c -> Scenes.players(c, 5), c -> c.settle(999));
    }

    private static void houseCanOweCoins() {
        EstimateContest contest = settled(1, 0, 0, 1, 20, 0);
        Check.same("house", contest.houseCoins(), -180);
        Check.same("coins", contest.coins(0), 280);
        contest.undo();
        Check.same("undone house", contest.houseCoins(), 0);
        contest.settle(1);
        Check.same("house", contest.houseCoins(), 20);
        Check.same("coins", contest.coins(0), 80);
    }

    private static void recentTruthsAreFive() {
        EstimateContest contest = new EstimateContest();
        for (int settled = 1; settled <= 8; settled++) {
            contest.openQuestion(1);
            contest.settle(settled * 100);
            Check.same("settledQuestions", contest.settledQuestions(), settled);
            for (int back = 0; back < Math.min(settled, 5); back++) {
                Check.same("recentTruth " + back, contest.recentTruth(back), (settled - back) * 100);
            }
            int tooFar = Math.min(settled, 5);
            Check.fails("recentTruth " + tooFar, NoSuchElementException.class, () -> contest.recentTruth(tooFar));
        }
    }

    private static void undoBringsBackTheDisplacedTruth() {
        EstimateContest contest = new EstimateContest();
        Scenes.questions(contest, 6);
        for (int i = 0; i < 6; i++) {
            contest.settle(i);
        }
        contest.undo();
        Check.same("settledQuestions", contest.settledQuestions(), 5);
        for (int back = 0; back < 5; back++) {
            Check.same("recentTruth " + back, contest.recentTruth(back), 4 - back);
        }
        contest.settle(77);
        Check.same("recentTruth", contest.recentTruth(0), 77);
        Check.same("recentTruth", contest.recentTruth(4), 1);
    }

    private static void meanScoreDivides() {
        EstimateContest contest = settled(1, 0, 10, 5, 1, 5);
        Check.same("meanScore", contest.meanScore(0), 10.0);
        int[] highs = {4, 6};
        for (int high : highs) {
            contest.estimate(0, contest.openQuestion(1), 0, high, 5, 1);
            contest.settle(0);
        }
        Check.same("meanScore", contest.meanScore(0), 20.0 / 3.0);
        Check.refused("no settled estimates", ArithmeticException.class, c -> {
            c.addPlayer();
            c.openQuestion(1);
            c.estimate(0, 0, 1, 2, 3, 4);
        }, c -> c.meanScore(0));
    }

    private static void queriesRefuse() {
        for (int back : new int[] {-1, 1, 2, 5, Integer.MIN_VALUE, Integer.MAX_VALUE}) {
            Check.refused("recentTruth " + back, NoSuchElementException.class, Scenes::busy, c -> c.recentTruth(back));
        }
        for (int player : Scenes.ABSENT_PLAYERS) {
            Class<IndexOutOfBoundsException> due = IndexOutOfBoundsException.class;
            Check.refused("settledEstimates", due, Scenes::busy, c -> c.settledEstimates(player));
            Check.refused("hits", due, Scenes::busy, c -> c.hits(player));
            Check.refused("score", due, Scenes::busy, c -> c.score(player));
            Check.refused("meanScore", due, Scenes::busy, c -> c.meanScore(player));
        }
    }
}
