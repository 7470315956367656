import java.util.NoSuchElementException;

/** Promises 35 to 42: calibration, ranks, bins and the check of the state. */
final class CalibrationTest {
    public static void main(String[] args) {
        calibrationErrorAddsUp();
        bestCalibratedTakesTheLeastIndex();
        bestCalibratedMindsWithdrawnPlayers();
        bestCalibratedRefuses();
        playerByScoreSorts();
        playerByScoreRefuses();
        binsCount();
        binShareDividesAsFloat();
        binsRefuse();
        isConsistentThroughout();
        Check.finish();
    }

    /** Settles a question with one estimate of the width given. */
    private static void bet(EstimateContest contest, int player, int width, int confidence, boolean hit) {
        contest.estimate(player, contest.openQuestion(1), 0, width, confidence, 1);
        contest.settle(hit ? 0 : 999);
    }

    private static void calibrationErrorAddsUp() {
        EstimateContest contest = new EstimateContest();
        Scenes.players(contest, 2);
        Check.same("none", contest.calibrationError(0), 0);
        bet(contest, 0, 5, 3, true);
        Check.same("a hit of 3", contest.calibrationError(0), 7);
        bet(contest, 0, 5, 3, false);
        Check.same("and a miss of 3", contest.calibrationError(0), 4);
        bet(contest, 0, 5, 3, false);
        Check.same("and one more", contest.calibrationError(0), 1);
        bet(contest, 0, 5, 3, false);
        Check.same("too few hits", contest.calibrationError(0), 2);
        bet(contest, 0, 5, 9, true);
        Check.same("and a hit of 9", contest.calibrationError(0), 3);
        bet(contest, 0, 5, 1, false);
        Check.same("and a miss of 1", contest.calibrationError(0), 4);
        Check.same("the other player", contest.calibrationError(1), 0);
        for (int player : Scenes.ABSENT_PLAYERS) {
            Check.refused("calibrationError", IndexOutOfBoundsException.class, Scenes::busy,
                    c -> c.calibrationError(player));
        }
    }

    private static void bestCalibratedTakesTheLeastIndex() {
        EstimateContest contest = new EstimateContest();
        Scenes.players(contest, 4);
        bet(contest, 3, 1, 9, true);
        Check.same("the only one", contest.bestCalibrated(), 3);
        bet(contest, 2, 1, 1, false);
        Check.same("the lesser of two", contest.bestCalibrated(), 2);
        bet(contest, 1, 1, 8, true);
        Check.same("a worse one", contest.bestCalibrated(), 2);
        bet(contest, 2, 1, 1, false);
        Check.same("now worse", contest.bestCalibrated(), 3);
    }

    private static void bestCalibratedMindsWithdrawnPlayers() {
        EstimateContest contest = new EstimateContest();
        Scenes.players(contest, 2);
        bet(contest, 0, 1, 9, true);
        bet(contest, 1, 1, 5, true);
        contest.withdraw(0);
        Check.same("a withdrawn one", contest.bestCalibrated(), 0);
    }

    private static void bestCalibratedRefuses() {
        Check.refused("no players", NoSuchElementException.class, Scenes::empty, c -> c.bestCalibrated());
        Check.refused("no settled estimates", NoSuchElementException.class, c -> {
            Scenes.players(c, 2);
            Scenes.questions(c, 2);
            c.estimate(0, 1, 0, 0, 9, 1);
            c.settle(5);
        }, c -> c.bestCalibrated());
    }

    private static void ranks(EstimateContest contest, int... players) {
        for (int rank = 0; rank < players.length; rank++) {
            Check.same("playerByScore " + rank, contest.playerByScore(rank), players[rank]);
        }
    }

    private static void playerByScoreSorts() {
        EstimateContest contest = new EstimateContest();
        Scenes.players(contest, 5);
        ranks(contest, 0, 1, 2, 3, 4);
        bet(contest, 0, 30, 5, true);
        bet(contest, 1, 10, 5, true);
        bet(contest, 3, 20, 5, true);
        ranks(contest, 2, 4, 1, 3, 0);
        bet(contest, 4, 0, 5, true);
        ranks(contest, 4, 2, 1, 3, 0);
        bet(contest, 1, 20, 5, true);
        ranks(contest, 4, 2, 3, 1, 0);
        bet(contest, 3, 10, 5, true);
        ranks(contest, 4, 2, 1, 3, 0);
        contest.withdraw(4);
        ranks(contest, 4, 2, 1, 3, 0);
        bet(contest, 3, 0, 5, true);
        ranks(contest, 4, 2, 3, 1, 0);
    }

    private static void playerByScoreRefuses() {
        Check.refused("no players", NoSuchElementException.class, Scenes::empty, c -> c.playerByScore(0));
        for (int rank : Scenes.ABSENT_PLAYERS) {
            Check.refused("rank " + rank, NoSuchElementException.class, Scenes::busy, c -> c.playerByScore(rank));
        }
    }

    private static void binsCount() {
        EstimateContest contest = new EstimateContest();
        Scenes.players(contest, 3);
        for (int confidence = 1; confidence <= 9; confidence++) {
            bet(contest, confidence % 3, 5, confidence, confidence % 2 == 0);
        }
        bet(contest, 0, 5, 4, false);
        bet(contest, 1, 5, 4, true);
        contest.withdraw(1);
        contest.estimate(0, contest.openQuestion(1), 0, 0, 4, 1);
        for (int confidence = 1; confidence <= 9; confidence++) {
            int size = confidence == 4 ? 3 : 1;
            int hits = confidence == 4 ? 2 : (confidence + 1) % 2;
            Check.same("binSize " + confidence, contest.binSize(confidence), size);
            Check.same("binSizeByPlayers " + confidence, contest.binSizeByPlayers(confidence), size);
            Check.same("binHits " + confidence, contest.binHits(confidence), hits);
        }
    }

    private static void binShareDividesAsFloat() {
        EstimateContest contest = new EstimateContest();
        contest.addPlayer();
        bet(contest, 0, 5, 7, false);
        Check.same("share of none", contest.binShare(7), 0f);
        bet(contest, 0, 5, 7, true);
        Check.same("share of a half", contest.binShare(7), 0.5f);
        bet(contest, 0, 5, 7, true);
        Check.same("share of two thirds", contest.binShare(7), 2f / 3f);
        bet(contest, 0, 5, 8, true);
        Check.same("share of all", contest.binShare(8), 1f);
        Check.refused("an empty bin", ArithmeticException.class, Scenes::busy, c -> c.binShare(1));
        Check.refused("an empty bin", ArithmeticException.class, Scenes::empty, c -> c.binShare(9));
    }

    private static void binsRefuse() {
        for (int confidence : new int[] {0, 10, -1, Integer.MIN_VALUE, Integer.MAX_VALUE}) {
            Class<IllegalArgumentException> due = IllegalArgumentException.class;
            Check.refused("binSize", due, Scenes::busy, c -> c.binSize(confidence));
            Check.refused("binSizeByPlayers", due, Scenes::busy, c -> c.binSizeByPlayers(confidence));
            Check.refused("binHits", due, Scenes::busy, c -> c.binHits(confidence));
            Check.refused("binShare", due, Scenes::busy, c -> c.binShare(confidence));
        }
    }

    private static void isConsistentThroughout() {
        EstimateContest contest = new EstimateContest();
        Scenes.players(contest, 5);
        for (int round = 0; round < 30; round++) {
            int question = contest.openQuestion(round % 3 + 1);
            for (int player = 0; player < 4; player++) {
                int low = (round * 37 + player * 11) % 900;
                int confidence = (round + player) % 9 + 1;
                Check.outcome(() -> contest.estimate(player(low), question, low, low + 90, confidence, 5));
                Check.same("isConsistent", contest.isConsistent(), true);
            }
            if (round % 2 == 0) {
                contest.settle(round * 30);
            } else {
                contest.postpone();
            }
            Check.same("isConsistent", contest.isConsistent(), true);
            if (contest.openCount() == 6) {
                contest.settle(450);
            }
        }
        contest.withdraw(0);
        Check.same("isConsistent", contest.isConsistent(), true);
        contest.undo();
        Check.same("isConsistent", contest.isConsistent(), true);
    }

    private static int player(int low) {
        return low % 4;
    }
}
