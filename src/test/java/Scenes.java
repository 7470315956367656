import java.util.function.Consumer;

/** States that several tests start from. */
final class Scenes {
    static final int[] ABSENT_PLAYERS = {-1, 3, 4, 5, Integer.MIN_VALUE, Integer.MAX_VALUE};
    static final int[] ABSENT_QUESTIONS = {-1, 0, 4, 6, Integer.MIN_VALUE, Integer.MAX_VALUE};

    private Scenes() {
    }

    static EstimateContest made(Consumer<EstimateContest> scene) {
        EstimateContest contest = new EstimateContest();
        scene.accept(contest);
        return contest;
    }

    static void empty(EstimateContest contest) {
        contest.undoCount();
    }

    /**
     * Three players, of whom 2 has withdrawn; the question 0 is settled; the queue is 1, 2, 3, where 1 has the estimates
     * of 1 and 0, 2 has the one of 0, and 3 has none. All that throws has something to spoil: a saved state, an output, an
     * input, an error position, a failed command, and calls to undo.
     */
    static void busy(EstimateContest contest) {
        players(contest, 3);
        contest.openQuestion(2);
        contest.estimate(0, 0, 100, 300, 8, 20);
        contest.estimate(1, 0, 250, 400, 5, 10);
        contest.estimate(2, 0, 290, 999, 9, 7);
        contest.settle(260);
        contest.openQuestion(1);
        contest.save();
        Check.outcome(() -> View.run(contest, "player;bed"));
        Check.outcome(() -> View.run(contest, "later;open 0"));
        contest.openQuestion(2);
        contest.openQuestion(3);
        contest.estimate(1, 1, 5, 50, 9, 3);
        contest.estimate(0, 1, 0, 20, 2, 11);
        contest.estimate(0, 2, 7, 7, 1, 20);
        contest.withdraw(2);
        contest.writeQuestion(1);
        View.feed(contest, "open 3");
    }

    /**
     * All places are taken: five players, and six questions in the queue 4, 5, 6, 7, 2, 3, of which 4 has the estimates of
     * 4, 0, 3, 1 and 2, and 3, the last one, those of 0 and 4, and 5 the one of 1. All that throws has something to spoil,
     * as in busy; the saved state is the one before the six questions.
     */
    static void full(EstimateContest contest) {
        players(contest, 5);
        settledTwice(contest);
        contest.save();
        questions(contest, 6);
        contest.postpone();
        contest.postpone();
        Check.outcome(() -> View.run(contest, "player;"));
        Check.outcome(() -> View.run(contest, "later;later;out 5"));
        contest.estimate(1, 5, 7, 8, 2, 3);
        contest.estimate(4, 4, 40, 940, 9, 1);
        contest.estimate(0, 4, 0, 5, 1, 2);
        contest.estimate(3, 4, 30, 930, 8, 3);
        contest.estimate(1, 4, 10, 910, 6, 4);
        contest.estimate(2, 4, 20, 920, 7, 5);
        contest.estimate(0, 3, 999, 999, 9, 20);
        contest.estimate(4, 3, 0, 999, 1, 20);
        contest.writeQuestion(3);
        View.feed(contest, "later");
    }

    /** The questions 0 and 1, with hits and misses at the ends of intervals. */
    private static void settledTwice(EstimateContest contest) {
        contest.openQuestion(1);
        contest.openQuestion(2);
        contest.estimate(0, 0, 300, 300, 1, 1);
        contest.estimate(1, 0, 301, 310, 3, 2);
        contest.estimate(2, 0, 290, 299, 5, 3);
        contest.estimate(3, 0, 200, 300, 7, 4);
        contest.estimate(4, 0, 0, 999, 9, 5);
        contest.estimate(1, 1, 0, 0, 1, 20);
        contest.estimate(3, 1, 1, 1, 9, 20);
        contest.settle(300);
        contest.settle(0);
    }

    /** One player, one question, one estimate, and nothing else. */
    static void single(EstimateContest contest) {
        contest.addPlayer();
        contest.openQuestion(2);
        contest.estimate(0, 0, 100, 199, 4, 10);
    }

    /** One player for each interval, whose ends are given, and one question. */
    static EstimateContest intervals(int... ends) {
        EstimateContest contest = new EstimateContest();
        players(contest, ends.length / 2);
        contest.openQuestion(1);
        for (int i = 0; i < ends.length / 2; i++) {
            contest.estimate(i, 0, ends[2 * i], ends[2 * i + 1], 5, 1);
        }
        return contest;
    }

    static void questionsAlone(EstimateContest contest) {
        contest.addPlayer();
        questions(contest, 6);
    }

    static void players(EstimateContest contest, int count) {
        for (int i = 0; i < count; i++) {
            contest.addPlayer();
        }
    }

    static void questions(EstimateContest contest, int count) {
        for (int i = 0; i < count; i++) {
            contest.openQuestion(i % 3 + 1);
        }
    }
}
