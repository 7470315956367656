import java.util.NoSuchElementException;

/** Promises 4, 12 and 18 to 24: estimates of open questions. */
final class EstimatesTest {
    private static final int[] OFF_VALUES = {-1, 1000, Integer.MIN_VALUE, Integer.MAX_VALUE};

    public static void main(String[] args) {
        estimateKeepsWhatItIsGiven();
        estimateTakesTheEdges();
        estimateRefusesOneThing();
        estimateRefusesTheFirstOfSeveral();
        estimateNeedsCoins();
        stakesAddUp();
        estimatorsRank();
        winningsAreRoundedDown();
        queriesRefuse();
        Check.finish();
    }

    private static void estimateKeepsWhatItIsGiven() {
        EstimateContest contest = new EstimateContest();
        Scenes.players(contest, 2);
        Scenes.questions(contest, 2);
        Check.same("coins", contest.estimate(1, 0, 12, 345, 6, 7), 93);
        Check.same("coins again", contest.estimate(1, 1, 0, 1, 2, 3), 90);
        Check.same("low", contest.low(1, 0), 12);
        Check.same("high", contest.high(1, 0), 345);
        Check.same("confidence", contest.confidence(1, 0), 6);
        Check.same("stake", contest.stake(1, 0), 7);
        Check.same("winnings", contest.winnings(1, 0), 4);
        Check.same("has", contest.hasEstimate(1, 0), true);
        Check.same("has not", contest.hasEstimate(0, 0), false);
        Check.same("coins stay taken", contest.coins(1), 90);
        Check.same("the other's coins", contest.coins(0), 100);
        Check.same("recorded", contest.undoCount(), 6);
    }

    private static void estimateTakesTheEdges() {
        EstimateContest contest = new EstimateContest();
        Scenes.players(contest, 4);
        contest.openQuestion(1);
        Check.same("widest", contest.estimate(0, 0, 0, 999, 9, 20), 80);
        Check.same("highest", contest.estimate(1, 0, 999, 999, 1, 1), 99);
        Check.same("lowest", contest.estimate(2, 0, 0, 0, 1, 1), 99);
        Check.same("the same interval again", contest.estimate(3, 0, 0, 0, 1, 1), 99);
    }

    private static void estimateRefusesOneThing() {
        for (int player : Scenes.ABSENT_PLAYERS) {
            Check.refused("player " + player, IndexOutOfBoundsException.class, Scenes::busy,
                    c -> c.estimate(player, 3, 0, 0, 1, 1));
        }
        for (int question : Scenes.ABSENT_QUESTIONS) {
            Check.refused("question " + question, NoSuchElementException.class, Scenes::busy,
                    c -> c.estimate(0, question, 0, 0, 1, 1));
        }
        for (int value : OFF_VALUES) {
            refusedAsOff(value, 999, 1, 1);
            refusedAsOff(0, value, 1, 1);
        }
        refusedAsOff(5, 4, 1, 1);
        refusedAsOff(999, 0, 1, 1);
        for (int confidence : new int[] {0, 10, -1, Integer.MIN_VALUE, Integer.MAX_VALUE}) {
            refusedAsOff(0, 0, confidence, 1);
        }
        for (int stake : new int[] {0, 21, -1, Integer.MIN_VALUE, Integer.MAX_VALUE}) {
            refusedAsOff(0, 0, 1, stake);
        }
        Check.refused("a withdrawn player", UnsupportedOperationException.class, Scenes::busy,
                c -> c.estimate(2, 3, 0, 0, 1, 1));
        Check.refused("a second estimate", IllegalStateException.class, Scenes::busy,
                c -> c.estimate(0, 1, 0, 0, 1, 1));
    }

    private static void refusedAsOff(int low, int high, int confidence, int stake) {
        Check.refused("estimate " + low + " " + high + " " + confidence + " " + stake, IllegalArgumentException.class,
                Scenes::busy, c -> c.estimate(0, 3, low, high, confidence, stake));
    }

    private static void estimateRefusesTheFirstOfSeveral() {
        Check.refused("player before question", IndexOutOfBoundsException.class, Scenes::busy,
                c -> c.estimate(3, 0, 5, 4, 0, 0));
        Check.refused("question before range", NoSuchElementException.class, Scenes::busy,
                c -> c.estimate(2, 0, 5, 4, 0, 0));
        Check.refused("range before withdrawn", IllegalArgumentException.class, Scenes::busy,
                c -> c.estimate(2, 1, 5, 4, 1, 1));
        Check.refused("range before second", IllegalArgumentException.class, Scenes::busy,
                c -> c.estimate(0, 1, 5, 4, 1, 1));
        Check.refused("withdrawn before coins", UnsupportedOperationException.class, c -> {
            spend(c, 81);
            c.openQuestion(1);
            c.withdraw(0);
        }, c -> c.estimate(0, c.questionAt(0), 0, 0, 1, 20));
    }

    /** Player 0 loses coins in settled questions. */
    private static void spend(EstimateContest contest, int coins) {
        contest.addPlayer();
        for (int left = coins; left > 0; left -= Math.min(left, 20)) {
            contest.estimate(0, contest.openQuestion(1), 0, 0, 1, Math.min(left, 20));
            contest.settle(999);
        }
    }

    private static void estimateNeedsCoins() {
        EstimateContest contest = new EstimateContest();
        spend(contest, 85);
        int question = contest.openQuestion(1);
        Check.fails("16 of 15 coins", IllegalStateException.class, () -> contest.estimate(0, question, 0, 0, 1, 16));
        Check.same("15 of 15 coins", contest.estimate(0, question, 0, 0, 1, 15), 0);
        int next = contest.openQuestion(1);
        Check.fails("1 of no coins", IllegalStateException.class, () -> contest.estimate(0, next, 0, 0, 1, 1));
        Check.refused("20 of 19 coins", IllegalStateException.class, c -> {
            spend(c, 81);
            c.openQuestion(1);
        }, c -> c.estimate(0, c.questionAt(0), 0, 0, 1, 20));
    }

    private static void stakesAddUp() {
        EstimateContest contest = new EstimateContest();
        Scenes.players(contest, 2);
        Scenes.questions(contest, 3);
        contest.estimate(0, 0, 0, 9, 9, 20);
        contest.estimate(0, 2, 0, 9, 9, 3);
        contest.estimate(1, 2, 0, 9, 9, 4);
        Check.same("staked", contest.stakedCoins(), 27);
        contest.settle(500);
        Check.same("after settling", contest.stakedCoins(), 7);
        contest.withdraw(0);
        Check.same("after withdrawing", contest.stakedCoins(), 4);
    }

    private static void estimatorsRank() {
        EstimateContest contest = new EstimateContest();
        Scenes.players(contest, 5);
        Scenes.questions(contest, 2);
        int[] order = {4, 0, 3, 1, 2};
        for (int player : order) {
            contest.estimate(player, 1, 0, 0, 1, 1);
        }
        for (int rank = 0; rank < 5; rank++) {
            Check.same("estimator", contest.estimator(1, rank), order[rank]);
        }
        Check.fails("a sixth rank", IndexOutOfBoundsException.class, () -> contest.estimator(1, 5));
        for (int rank : new int[] {-1, 2, 5, Integer.MIN_VALUE, Integer.MAX_VALUE}) {
            Check.refused("rank " + rank, IndexOutOfBoundsException.class, Scenes::busy, c -> c.estimator(1, rank));
            Check.refused("question before rank", NoSuchElementException.class, Scenes::busy,
                    c -> c.estimator(0, rank));
        }
        Check.refused("rank of none", IndexOutOfBoundsException.class, Scenes::busy, c -> c.estimator(3, 0));
    }

    private static void winningsAreRoundedDown() {
        int[] due = {180, 80, 46, 30, 20, 13, 8, 5, 2};
        for (int confidence = 1; confidence <= 9; confidence++) {
            EstimateContest contest = new EstimateContest();
            contest.addPlayer();
            contest.openQuestion(1);
            contest.estimate(0, 0, 0, 0, confidence, 20);
            Check.same("winnings", contest.winnings(0, 0), due[confidence - 1]);
            contest.settle(0);
            Check.same("paid", contest.coins(0), 100 + due[confidence - 1]);
        }
        EstimateContest contest = new EstimateContest();
        contest.addPlayer();
        contest.openQuestion(1);
        contest.estimate(0, 0, 0, 0, 9, 8);
        Check.same("less than one coin", contest.winnings(0, 0), 0);
    }

    private static void queriesRefuse() {
        for (int player : Scenes.ABSENT_PLAYERS) {
            refusedByAll(IndexOutOfBoundsException.class, player, 1);
            refusedByAll(IndexOutOfBoundsException.class, player, 0);
            Check.refused("hasEstimate", IndexOutOfBoundsException.class, Scenes::busy,
                    c -> c.hasEstimate(player, 0));
        }
        for (int question : Scenes.ABSENT_QUESTIONS) {
            refusedByAll(NoSuchElementException.class, 0, question);
            Check.refused("hasEstimate", NoSuchElementException.class, Scenes::busy,
                    c -> c.hasEstimate(0, question));
        }
        refusedByAll(NoSuchElementException.class, 1, 2);
        refusedByAll(NoSuchElementException.class, 2, 1);
        refusedByAll(NoSuchElementException.class, 0, 3);
    }

    private static void refusedByAll(Class<? extends RuntimeException> due, int player, int question) {
        String at = " " + player + " " + question;
        Check.refused("low" + at, due, Scenes::busy, c -> c.low(player, question));
        Check.refused("high" + at, due, Scenes::busy, c -> c.high(player, question));
        Check.refused("confidence" + at, due, Scenes::busy, c -> c.confidence(player, question));
        Check.refused("stake" + at, due, Scenes::busy, c -> c.stake(player, question));
        Check.refused("winnings" + at, due, Scenes::busy, c -> c.winnings(player, question));
    }
}
