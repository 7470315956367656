import java.util.NoSuchElementException;
import java.util.function.Consumer;
import java.util.function.Function;

/** The tests of the two sentences about errors: the state is left as it is, and the first exception is thrown. */
final class BoundariesOfErrors {
    private static final Class<IndexOutOfBoundsException> INDEX = IndexOutOfBoundsException.class;
    private static final Class<NoSuchElementException> ABSENT = NoSuchElementException.class;
    private static final Class<IllegalArgumentException> RANGE = IllegalArgumentException.class;
    private static final Class<UnsupportedOperationException> UNSUPPORTED = UnsupportedOperationException.class;
    private static final Class<IllegalStateException> STATE = IllegalStateException.class;

    private BoundariesOfErrors() {
    }

    static void run() {
        Sentence.term("Errors", "A method that throws an exception leaves the state unchanged, unless its description"
                + " says otherwise", BoundariesOfErrors::unchanged);
        Sentence.term("Errors", "If several exceptions apply, the one listed first is thrown", () -> {
            firstOfEstimate();
            firstOfChanges();
            firstOfQueries();
            firstOfTexts();
        });
    }

    private static void refused(Class<? extends RuntimeException> due, Function<EstimateContest, Object> call) {
        Check.refused("in a full contest", due, Scenes::full, call);
    }

    /** Each method that can throw in a full contest does so once; the others are made ready first. */
    private static void unchanged() {
        changesAreRefused();
        queriesAreRefused();
        resultsAreRefused();
        Check.refused("feed", STATE, c -> View.feed(c, "x".repeat(60)), c -> c.feed('x'));
        Check.refused("undo", STATE, Scenes::empty, c -> c.undo());
        Check.refused("restore", STATE, Scenes::questionsAlone, c -> c.restore());
        Check.refused("errorPosition", ABSENT, Scenes::questionsAlone, c -> c.errorPosition());
        Check.refused("failedCommand", ABSENT, Scenes::questionsAlone, c -> c.failedCommand());
        Check.refused("bestCalibrated", ABSENT, Scenes::questionsAlone, c -> c.bestCalibrated());
        Check.refused("postpone", ABSENT, c -> c.addPlayer(), c -> c.postpone());
        descriptionsThatSayOtherwise();
    }

    private static void changesAreRefused() {
        refused(STATE, c -> c.addPlayer());
        refused(RANGE, c -> c.openQuestion(0));
        refused(STATE, c -> c.openQuestion(1));
        refused(INDEX, c -> c.estimate(5, 2, 0, 0, 1, 1));
        refused(ABSENT, c -> c.estimate(0, 8, 0, 0, 1, 1));
        refused(RANGE, c -> c.estimate(0, 2, 0, 0, 1, 21));
        refused(STATE, c -> c.estimate(0, 3, 0, 0, 1, 1));
        refused(RANGE, c -> c.settle(1000));
        refused(INDEX, c -> c.withdraw(5));
    }

    private static void queriesAreRefused() {
        refused(INDEX, c -> c.coins(5));
        refused(INDEX, c -> c.hasWithdrawn(5));
        refused(ABSENT, c -> c.questionAt(6));
        refused(ABSENT, c -> c.positionOf(8));
        refused(ABSENT, c -> c.weight(8));
        refused(ABSENT, c -> c.estimateCount(8));
        refused(INDEX, c -> c.estimator(2, 0));
        refused(INDEX, c -> c.hasEstimate(5, 2));
        refused(ABSENT, c -> c.low(0, 2));
        refused(ABSENT, c -> c.high(0, 2));
        refused(ABSENT, c -> c.confidence(0, 2));
        refused(ABSENT, c -> c.stake(0, 2));
        refused(ABSENT, c -> c.winnings(0, 2));
        refused(RANGE, c -> c.coverage(2, 1000));
        refused(ABSENT, c -> c.mostCovered(2));
        refused(ABSENT, c -> c.mostCoveredBySweep(2));
        refused(ABSENT, c -> c.coveredValues(8));
    }

    private static void resultsAreRefused() {
        refused(ABSENT, c -> c.recentTruth(2));
        refused(INDEX, c -> c.settledEstimates(5));
        refused(INDEX, c -> c.hits(5));
        refused(INDEX, c -> c.score(5));
        refused(INDEX, c -> c.meanScore(5));
        refused(INDEX, c -> c.calibrationError(5));
        refused(ABSENT, c -> c.playerByScore(5));
        refused(RANGE, c -> c.binSize(10));
        refused(RANGE, c -> c.binSizeByPlayers(10));
        refused(RANGE, c -> c.binHits(10));
        refused(RANGE, c -> c.binShare(10));
        refused(ArithmeticException.class, c -> c.binShare(2));
        refused(ABSENT, c -> c.writeQuestion(8));
        refused(INDEX, c -> c.outputChar(26));
    }

    private static void descriptionsThatSayOtherwise() {
        EstimateContest contest = new EstimateContest();
        Check.outcome(() -> View.run(contest, "player;later"));
        Check.same("the failed command is kept", contest.failedCommand(), 1);
        Check.same("the input is empty", contest.feed('x'), 1);
        Check.outcome(contest::runCommands);
        Check.same("the error position is kept", contest.errorPosition(), 0);
        Check.same("the input is empty", contest.feed('x'), 1);
        Check.same("no player", contest.playerCount(), 0);
        Check.same("no recorded call", contest.undoCount(), 0);
    }

    /** Player 0 has a coin and is out; player 1 has a coin and an estimate of question 5, the only one that is open. */
    private static void poor(EstimateContest contest) {
        Scenes.players(contest, 2);
        int[] stakes = {20, 20, 20, 20, 19};
        int[] otherStakes = {20, 20, 20, 20, 18};
        for (int i = 0; i < stakes.length; i++) {
            contest.openQuestion(1);
            contest.estimate(0, i, 0, 0, 1, stakes[i]);
            contest.estimate(1, i, 0, 0, 1, otherStakes[i]);
            contest.settle(999);
        }
        contest.openQuestion(1);
        contest.estimate(1, 5, 0, 0, 1, 1);
        contest.withdraw(0);
    }

    private static void firstOfEstimate() {
        Consumer<EstimateContest> scene = BoundariesOfErrors::poor;
        Check.refused("no player, no question", INDEX, scene, c -> c.estimate(2, 6, 0, 0, 1, 1));
        Check.refused("no player, off range", INDEX, scene, c -> c.estimate(2, 5, 0, 0, 1, 21));
        Check.refused("no player and all else", INDEX, scene, c -> c.estimate(-1, -1, 1000, -1, 0, 0));
        Check.refused("no question, off range", ABSENT, scene, c -> c.estimate(1, 6, 0, 0, 10, 1));
        Check.refused("no question, withdrawn", ABSENT, scene, c -> c.estimate(0, 4, 0, 0, 1, 1));
        Check.refused("no question, no coins", ABSENT, scene, c -> c.estimate(1, 6, 0, 0, 1, 2));
        Check.refused("no question and all else", ABSENT, scene, c -> c.estimate(0, 6, 1, 0, 0, 21));
        Check.refused("low off range, withdrawn", RANGE, scene, c -> c.estimate(0, 5, -1, 0, 1, 1));
        Check.refused("low above high, withdrawn", RANGE, scene, c -> c.estimate(0, 5, 1, 0, 1, 1));
        Check.refused("high off range, withdrawn", RANGE, scene, c -> c.estimate(0, 5, 0, 1000, 1, 1));
        Check.refused("confidence off range, withdrawn", RANGE, scene, c -> c.estimate(0, 5, 0, 0, 0, 1));
        Check.refused("stake off range, withdrawn", RANGE, scene, c -> c.estimate(0, 5, 0, 0, 1, 0));
        Check.refused("low off range, a second one", RANGE, scene, c -> c.estimate(1, 5, -1, 0, 1, 1));
        Check.refused("low above high, a second one", RANGE, scene, c -> c.estimate(1, 5, 1, 0, 1, 1));
        Check.refused("high off range, a second one", RANGE, scene, c -> c.estimate(1, 5, 0, 1000, 1, 1));
        Check.refused("confidence off range, no coins", RANGE, scene, c -> c.estimate(1, 5, 0, 0, 10, 2));
        Check.refused("stake off range, no coins", RANGE, scene, c -> c.estimate(1, 5, 0, 0, 1, 21));
        Check.refused("withdrawn, no coins", UNSUPPORTED, scene, c -> c.estimate(0, 5, 0, 0, 1, 2));
        Check.refused("a second one, no coins", STATE, scene, c -> c.estimate(1, 5, 0, 0, 1, 2));
    }

    private static void firstOfChanges() {
        for (int weight : new int[] {0, 4}) {
            Check.refused("weight off range, six open", RANGE, Scenes::full, c -> c.openQuestion(weight));
        }
        for (int truth : new int[] {-1, 1000}) {
            Check.refused("truth off range, none open", RANGE, c -> c.addPlayer(), c -> c.settle(truth));
        }
    }

    private static void firstOfQueries() {
        Check.refused("estimator", ABSENT, Scenes::full, c -> c.estimator(8, 5));
        Check.refused("estimator", ABSENT, Scenes::empty, c -> c.estimator(0, -1));
        Check.refused("coverage", ABSENT, Scenes::full, c -> c.coverage(8, 1000));
        Check.refused("coverage", ABSENT, Scenes::empty, c -> c.coverage(0, -1));
        for (int player : new int[] {-1, 5}) {
            Check.refused("hasEstimate", INDEX, Scenes::full, c -> c.hasEstimate(player, 8));
            Check.refused("low", INDEX, Scenes::full, c -> c.low(player, 8));
            Check.refused("high", INDEX, Scenes::full, c -> c.high(player, 8));
            Check.refused("confidence", INDEX, Scenes::full, c -> c.confidence(player, 8));
            Check.refused("stake", INDEX, Scenes::full, c -> c.stake(player, 8));
            Check.refused("winnings", INDEX, Scenes::full, c -> c.winnings(player, 8));
        }
    }

    /** The first command would fail, but the text is malformed further on. */
    private static void firstOfTexts() {
        EstimateContest contest = new EstimateContest();
        Check.fails("malformed and failing", RANGE, () -> View.run(contest, "later;late"));
        Check.fails("no command failed", ABSENT, contest::failedCommand);
        Check.same("errorPosition", contest.errorPosition(), 10);
        Check.fails("malformed and failing", RANGE, () -> View.run(contest, "open 0;bet 9 9 9-8 0 0;open 1;"));
        Check.fails("no command failed", ABSENT, contest::failedCommand);
        Check.same("errorPosition", contest.errorPosition(), 30);
    }
}
