/** States that several tests start from. */
final class Scenes {
    static final int[] ABSENT_PLAYERS = {-1, 3, 4, 5, Integer.MIN_VALUE, Integer.MAX_VALUE};
    static final int[] ABSENT_QUESTIONS = {-1, 0, 4, 6, Integer.MIN_VALUE, Integer.MAX_VALUE};

    private Scenes() {
    }

    static void empty(EstimateContest contest) {
        contest.undoCount();
    }

    /**
     * Three players, of whom 2 has withdrawn; the question 0 is settled; the queue is 1, 2, 3, where 1 has the estimates
     * of 1 and 0, 2 has the one of 0, and 3 has none. All that throws has something to spoil: a saved state, an output, an
     * input, an error position, a failed command, and calls to undo.
     */
    static void busy(EstimateContest contest) {
        players(contest, 3);
        contest.openQuestion(2);
        contest.estimate(0, 0, 100, 300, 8, 20);
        contest.estimate(1, 0, 250, 400, 5, 10);
        contest.estimate(2, 0, 290, 999, 9, 7);
        contest.settle(260);
        contest.openQuestion(1);
        contest.save();
        Check.outcome(() -> View.run(contest, "player;bed"));
        Check.outcome(() -> View.run(contest, "later;open 0"));
        contest.openQuestion(2);
        contest.openQuestion(3);
        contest.estimate(1, 1, 5, 50, 9, 3);
        contest.estimate(0, 1, 0, 20, 2, 11);
        contest.estimate(0, 2, 7, 7, 1, 20);
        contest.withdraw(2);
        contest.writeQuestion(1);
        View.feed(contest, "open 3");
    }

    static void players(EstimateContest contest, int count) {
        for (int i = 0; i < count; i++) {
            contest.addPlayer();
        }
    }

    static void questions(EstimateContest contest, int count) {
        for (int i = 0; i < count; i++) {
            contest.openQuestion(i % 3 + 1);
        }
    }
}
