/** Promises 3, 6 and 13 to 17: questions and their queue. */
final class QuestionsTest {
    public static void main(String[] args) {
        openQuestionCountsUp();
        openQuestionRefuses();
        numbersGoOnAfterSettling();
        postponeMovesTheFirst();
        postponeRefuses();
        queueAnswersBothWays();
        weightsStay();
        estimateCountCounts();
        queriesRefuseAbsentQuestions();
        Check.finish();
    }

    private static void openQuestionCountsUp() {
        EstimateContest contest = new EstimateContest();
        for (int i = 0; i < 6; i++) {
            Check.same("openCount", contest.openCount(), i);
            Check.same("openQuestion", contest.openQuestion(i % 3 + 1), i);
            Check.same("questionAt", contest.questionAt(i), i);
        }
        Check.same("openCount", contest.openCount(), 6);
    }

    private static void openQuestionRefuses() {
        for (int weight : new int[] {0, 4, -1, Integer.MIN_VALUE, Integer.MAX_VALUE}) {
            Check.refused("weight " + weight, IllegalArgumentException.class, Scenes::busy,
                    c -> c.openQuestion(weight));
            Check.refused("weight first", IllegalArgumentException.class, c -> Scenes.questions(c, 6),
                    c -> c.openQuestion(weight));
        }
        Check.refused("a seventh question", IllegalStateException.class, c -> Scenes.questions(c, 6),
                c -> c.openQuestion(1));
    }

    private static void numbersGoOnAfterSettling() {
        EstimateContest contest = new EstimateContest();
        for (int i = 0; i < 120; i++) {
            Check.same("openQuestion", contest.openQuestion(1), i);
            contest.settle(0);
        }
        Check.same("openCount", contest.openCount(), 0);
        Scenes.questions(contest, 6);
        contest.settle(9);
        Check.same("room again", contest.openQuestion(3), 126);
        Check.same("at the end", contest.questionAt(5), 126);
    }

    private static void postponeMovesTheFirst() {
        EstimateContest contest = new EstimateContest();
        contest.openQuestion(1);
        Check.same("the only one", contest.postpone(), 0);
        Check.same("is recorded", contest.undoCount(), 2);
        contest.openQuestion(2);
        contest.openQuestion(3);
        Check.same("postpone", contest.postpone(), 1);
        Check.same("the end", contest.questionAt(2), 0);
        Check.same("the middle", contest.questionAt(1), 2);
        Check.same("postpone", contest.postpone(), 2);
        Check.same("weight of the first", contest.weight(contest.questionAt(0)), 3);
        contest.settle(1);
        Check.same("settles the first", contest.questionAt(0), 0);
    }

    private static void postponeRefuses() {
        Check.refused("postpone", java.util.NoSuchElementException.class, Scenes::empty, c -> c.postpone());
        Check.refused("postpone", java.util.NoSuchElementException.class, c -> {
            c.openQuestion(1);
            c.settle(1);
        }, c -> c.postpone());
    }

    private static void queueAnswersBothWays() {
        EstimateContest contest = new EstimateContest();
        Scenes.questions(contest, 6);
        contest.settle(0);
        contest.postpone();
        int[] queue = {2, 3, 4, 5, 1};
        for (int i = 0; i < queue.length; i++) {
            Check.same("questionAt", contest.questionAt(i), queue[i]);
            Check.same("positionOf", contest.positionOf(queue[i]), i);
        }
        for (int position : new int[] {-1, 3, 5, 6, Integer.MIN_VALUE, Integer.MAX_VALUE}) {
            Check.refused("questionAt " + position, java.util.NoSuchElementException.class, Scenes::busy,
                    c -> c.questionAt(position));
        }
        Check.refused("questionAt", java.util.NoSuchElementException.class, Scenes::empty, c -> c.questionAt(0));
    }

    private static void weightsStay() {
        EstimateContest contest = new EstimateContest();
        Scenes.questions(contest, 3);
        contest.postpone();
        for (int i = 0; i < 3; i++) {
            Check.same("weight", contest.weight(i), i + 1);
        }
    }

    private static void estimateCountCounts() {
        EstimateContest contest = new EstimateContest();
        Scenes.players(contest, 5);
        Scenes.questions(contest, 2);
        for (int i = 0; i < 5; i++) {
            Check.same("estimateCount", contest.estimateCount(1), i);
            contest.estimate(i, 1, 0, 0, 1, 1);
        }
        Check.same("estimateCount", contest.estimateCount(1), 5);
        Check.same("the other question", contest.estimateCount(0), 0);
    }

    private static void queriesRefuseAbsentQuestions() {
        Class<java.util.NoSuchElementException> due = java.util.NoSuchElementException.class;
        for (int question : Scenes.ABSENT_QUESTIONS) {
            Check.refused("positionOf", due, Scenes::busy, c -> c.positionOf(question));
            Check.refused("weight", due, Scenes::busy, c -> c.weight(question));
            Check.refused("estimateCount", due, Scenes::busy, c -> c.estimateCount(question));
        }
        Check.refused("positionOf", due, Scenes::empty, c -> c.positionOf(0));
        Check.refused("weight", due, Scenes::empty, c -> c.weight(0));
        Check.refused("estimateCount", due, Scenes::empty, c -> c.estimateCount(0));
    }
}
