import java.util.Arrays;
import java.util.NoSuchElementException;

/** A test for each sentence of the promises 12 to 28: what is asked of open questions and of their estimates. */
final class BoundariesOfQuestions {
    private static final String QUESTION = "`question`: number of a question";
    private static final String PLAYER = "`player`: index of a player";
    private static final String NO_PLAYER = "Throws `IndexOutOfBoundsException` if there is no such player";
    private static final String NO_QUESTION = "Throws `NoSuchElementException` if there is no such open question";

    private BoundariesOfQuestions() {
    }

    static void run() {
        sums();
        queue();
        ofQuestions();
        estimators();
        hasEstimate();
        ofEstimates();
        coverage();
        mostCovered(26, EstimateContest::mostCovered);
        mostCovered(27, EstimateContest::mostCoveredBySweep);
        leastOfTheMost();
        coveredValues();
    }

    private static void sums() {
        Sentence.promise(12, "Returns the sum of the stakes of all estimates of open questions",
                BoundariesOfQuestions::stakes);
        Sentence.promise(13, "Returns the number of open questions", BoundariesOfQuestions::openQuestions);
        Sentence.promise(13, "Returns the number, 0 to 6", BoundariesOfQuestions::openCounts);
    }

    private static void stakes() {
        EstimateContest contest = new EstimateContest();
        Check.same("nothing there", contest.stakedCoins(), 0);
        Scenes.players(contest, 5);
        contest.openQuestion(1);
        Check.same("no estimate", contest.stakedCoins(), 0);
        for (int player = 0; player < 5; player++) {
            contest.estimate(player, 0, 0, 0, 1, 20);
        }
        contest.settle(0);
        Check.same("none is open", contest.stakedCoins(), 0);
        for (int question = 1; question <= 6; question++) {
            contest.openQuestion(1);
            for (int player = 0; player < 5; player++) {
                contest.estimate(player, question, 0, 0, 1, 20);
            }
        }
        Check.same("all that can be staked", contest.stakedCoins(), 600);
        contest.withdraw(4);
        Check.same("one is out", contest.stakedCoins(), 480);
        contest.settle(1);
        Check.same("one is settled", contest.stakedCoins(), 400);
    }

    private static void openQuestions() {
        EstimateContest contest = Scenes.made(Scenes::full);
        contest.postpone();
        Check.same("a postponed one is open", contest.openCount(), 6);
        contest.settle(0);
        Check.same("a settled one is not", contest.openCount(), 5);
        contest.undo();
        Check.same("it is again", contest.openCount(), 6);
    }

    private static void openCounts() {
        EstimateContest contest = new EstimateContest();
        Check.same("none", contest.openCount(), 0);
        for (int count = 1; count <= 6; count++) {
            contest.openQuestion(1);
            Check.same("openCount", contest.openCount(), count);
        }
        Check.fails("a seventh", IllegalStateException.class, () -> contest.openQuestion(1));
        Check.same("openCount", contest.openCount(), 6);
        for (int count = 5; count >= 0; count--) {
            contest.settle(0);
            Check.same("openCount", contest.openCount(), count);
        }
        Check.fails("none to settle", NoSuchElementException.class, () -> contest.settle(0));
        Check.same("openCount", contest.openCount(), 0);
    }

    private static void queue() {
        Sentence.promise(14, "Returns the question at a position of the queue",
                BoundariesOfQuestions::questionsComeRound);
        Sentence.promise(14, "`position`: the position, counted from 0", BoundariesOfQuestions::questionAtTakes);
        Sentence.promise(14, "Throws `NoSuchElementException` if there is no such position",
                BoundariesOfQuestions::questionAtRefuses);
        Sentence.promise(15, "Returns the position of a question in the queue",
                BoundariesOfQuestions::positionsComeRound);
        Sentence.promise(15, QUESTION,
                () -> Absent.allQuestions(EstimateContest::positionOf, 4, 5, 0, 1, 2, 3, 0));
        Sentence.promise(15, "Returns the position, counted from 0", BoundariesOfQuestions::positionsCount);
        Sentence.promise(15, NO_QUESTION, () -> Absent.questions(EstimateContest::positionOf));
    }

    private static void questionsComeRound() {
        EstimateContest contest = Scenes.made(Scenes::full);
        int[] queue = {4, 5, 6, 7, 2, 3};
        for (int moved = 0; moved <= 6; moved++) {
            for (int position = 0; position < 6; position++) {
                Check.same("questionAt", contest.questionAt(position), queue[(position + moved) % 6]);
            }
            contest.postpone();
        }
    }

    private static void questionAtTakes() {
        EstimateContest contest = new EstimateContest();
        contest.openQuestion(1);
        Check.same("the only one", contest.questionAt(0), 0);
        Check.fails("1 of one", NoSuchElementException.class, () -> contest.questionAt(1));
        Scenes.questions(contest, 5);
        Check.fails("-1 of six", NoSuchElementException.class, () -> contest.questionAt(-1));
        Check.same("the first", contest.questionAt(0), 0);
        Check.same("the last", contest.questionAt(5), 5);
        Check.fails("6 of six", NoSuchElementException.class, () -> contest.questionAt(6));
    }

    private static void questionAtRefuses() {
        Class<NoSuchElementException> due = NoSuchElementException.class;
        for (int position : new int[] {-1, 6, 7, Integer.MIN_VALUE, Integer.MAX_VALUE}) {
            Check.refused("questionAt " + position, due, Scenes::full, c -> c.questionAt(position));
        }
        Check.refused("0 of none", due, Scenes::empty, c -> c.questionAt(0));
        Check.refused("1 of one", due, Scenes::single, c -> c.questionAt(1));
        Check.refused("the last, after settling", due, c -> {
            Scenes.full(c);
            c.settle(0);
        }, c -> c.questionAt(5));
    }

    private static void positionsComeRound() {
        EstimateContest contest = Scenes.made(Scenes::full);
        for (int position : new int[] {5, 4, 3, 2, 1, 0, 5}) {
            Check.same("positionOf the last", contest.positionOf(3), position);
            contest.postpone();
        }
    }

    private static void positionsCount() {
        EstimateContest contest = new EstimateContest();
        Scenes.questions(contest, 6);
        Check.same("the first", contest.positionOf(0), 0);
        Check.same("the last", contest.positionOf(5), 5);
        contest.settle(0);
        Check.same("the next first", contest.positionOf(1), 0);
        Check.same("the last moves up", contest.positionOf(5), 4);
    }

    private static void ofQuestions() {
        Sentence.promise(16, "Returns the weight of an open question", BoundariesOfQuestions::weights);
        Sentence.promise(16, QUESTION, () -> Absent.allQuestions(EstimateContest::weight, 1, 2, 3, 1, 2, 3, 2));
        Sentence.promise(16, NO_QUESTION, () -> Absent.questions(EstimateContest::weight));
        Sentence.promise(17, "Returns the number of estimates of an open question",
                BoundariesOfQuestions::estimateCounts);
        Sentence.promise(17, QUESTION,
                () -> Absent.allQuestions(EstimateContest::estimateCount, 0, 2, 5, 1, 0, 0, 1));
        Sentence.promise(17, NO_QUESTION, () -> Absent.questions(EstimateContest::estimateCount));
    }

    private static void weights() {
        EstimateContest contest = new EstimateContest();
        contest.openQuestion(1);
        contest.openQuestion(3);
        Check.same("the least", contest.weight(0), 1);
        Check.same("the greatest", contest.weight(1), 3);
        contest.postpone();
        Check.same("it goes along", contest.weight(0), 1);
    }

    private static void estimateCounts() {
        EstimateContest contest = new EstimateContest();
        Scenes.players(contest, 5);
        contest.openQuestion(1);
        for (int player = 0; player < 5; player++) {
            Check.same("estimateCount", contest.estimateCount(0), player);
            contest.estimate(player, 0, 0, 0, 1, 1);
        }
        for (int count = 5; count > 0; count--) {
            Check.same("estimateCount", contest.estimateCount(0), count);
            contest.withdraw(count % 5);
        }
        Check.same("all are out", contest.estimateCount(0), 0);
    }

    private static void estimators() {
        Sentence.promise(18, "Returns the player who made an estimate of an open question",
                BoundariesOfQuestions::estimatorsMoveUp);
        Sentence.promise(18, QUESTION, BoundariesOfQuestions::estimatorTakesQuestions);
        Sentence.promise(18, "`rank`: the rank of the estimate in the order in which they were made, counted from 0",
                BoundariesOfQuestions::estimatorTakesRanks);
        Sentence.promise(18, NO_QUESTION, () -> Absent.questions((c, question) -> c.estimator(question, 0)));
        Sentence.promise(18, "Throws `IndexOutOfBoundsException` if there is no such rank",
                BoundariesOfQuestions::estimatorRefusesRanks);
    }

    private static void estimatorsAre(EstimateContest contest, int question, int... due) {
        Check.same("estimateCount", contest.estimateCount(question), due.length);
        for (int rank = -1; rank <= due.length; rank++) {
            int asked = rank;
            boolean isThere = rank >= 0 && rank < due.length;
            Check.same("estimator " + rank, Check.outcome(() -> contest.estimator(question, asked)),
                    isThere ? String.valueOf(due[rank]) : "throws IndexOutOfBoundsException");
        }
    }

    private static void estimatorsMoveUp() {
        EstimateContest contest = Scenes.made(Scenes::full);
        contest.withdraw(4);
        estimatorsAre(contest, 4, 0, 3, 1, 2);
        estimatorsAre(contest, 3, 0);
        contest.withdraw(2);
        estimatorsAre(contest, 4, 0, 3, 1);
        contest.withdraw(3);
        estimatorsAre(contest, 4, 0, 1);
        contest.undo();
        contest.undo();
        contest.undo();
        estimatorsAre(contest, 4, 4, 0, 3, 1, 2);
    }

    private static void estimatorTakesQuestions() {
        EstimateContest contest = Scenes.made(Scenes::full);
        Check.same("the first of the queue", contest.estimator(4, 0), 4);
        Check.same("the second", contest.estimator(5, 0), 1);
        Check.same("the last", contest.estimator(3, 0), 0);
        Check.same("the only one", Scenes.made(Scenes::single).estimator(0, 0), 0);
        Absent.noQuestionsBeside((c, question) -> c.estimator(question, 0));
    }

    private static void estimatorTakesRanks() {
        EstimateContest contest = Scenes.made(Scenes::full);
        estimatorsAre(contest, 4, 4, 0, 3, 1, 2);
        estimatorsAre(contest, 3, 0, 4);
        estimatorsAre(contest, 5, 1);
        estimatorsAre(contest, 2);
    }

    private static void estimatorRefusesRanks() {
        Class<IndexOutOfBoundsException> due = IndexOutOfBoundsException.class;
        for (int rank : new int[] {-1, 5, Integer.MIN_VALUE, Integer.MAX_VALUE}) {
            Check.refused("rank " + rank + " of five", due, Scenes::full, c -> c.estimator(4, rank));
        }
        Check.refused("rank 2 of two", due, Scenes::full, c -> c.estimator(3, 2));
        Check.refused("rank 1 of one", due, Scenes::full, c -> c.estimator(5, 1));
        Check.refused("rank 0 of none", due, Scenes::full, c -> c.estimator(2, 0));
        Check.refused("the last rank, one being out", due, c -> {
            Scenes.full(c);
            c.withdraw(0);
        }, c -> c.estimator(4, 4));
    }

    private static void hasEstimate() {
        Sentence.promise(19, "Returns whether a player has made an estimate of an open question",
                BoundariesOfQuestions::estimatesComeAndGo);
        Sentence.promise(19, PLAYER, BoundariesOfQuestions::hasEstimateTakesPlayers);
        Sentence.promise(19, QUESTION, () -> Absent.allQuestions((c, question) -> c.hasEstimate(0, question),
                false, true, true, false, false, false, true));
        Sentence.promise(19, NO_PLAYER, () -> Absent.players((c, player) -> c.hasEstimate(player, 0)));
        Sentence.promise(19, NO_QUESTION, () -> Absent.questions((c, question) -> c.hasEstimate(0, question)));
    }

    private static void estimatesComeAndGo() {
        EstimateContest contest = Scenes.made(Scenes::single);
        Check.same("made", contest.hasEstimate(0, 0), true);
        contest.withdraw(0);
        Check.same("removed", contest.hasEstimate(0, 0), false);
        contest.undo();
        Check.same("removed no more", contest.hasEstimate(0, 0), true);
        contest.undo();
        Check.same("not made any more", contest.hasEstimate(0, 0), false);
    }

    private static void hasEstimateTakesPlayers() {
        EstimateContest contest = Scenes.made(Scenes::full);
        boolean[] ofTwo = {true, false, false, false, true};
        for (int player = 0; player < 5; player++) {
            Check.same("of all, player " + player, contest.hasEstimate(player, 4), true);
            Check.same("of two, player " + player, contest.hasEstimate(player, 3), ofTwo[player]);
            Check.same("of one, player " + player, contest.hasEstimate(player, 5), player == 1);
            Check.same("of none, player " + player, contest.hasEstimate(player, 2), false);
        }
        Absent.noPlayersBeside((c, player) -> c.hasEstimate(player, c.questionAt(0)));
    }

    private static void ofEstimates() {
        ofEstimate(20, "Returns the low value of an estimate of an open question", EstimateContest::low,
                new int[] {0, 10, 20, 30, 40}, new int[] {999, 0, 7}, new int[] {0, 999});
        ofEstimate(21, "Returns the high value of an estimate of an open question", EstimateContest::high,
                new int[] {5, 910, 920, 930, 940}, new int[] {999, 999, 8}, new int[] {0, 999});
        ofEstimate(22, "Returns the confidence of an estimate of an open question", EstimateContest::confidence,
                new int[] {1, 6, 7, 8, 9}, new int[] {9, 1, 2}, new int[] {1, 9});
        ofEstimate(23, "Returns the stake of an estimate of an open question", EstimateContest::stake,
                new int[] {2, 4, 5, 3, 1}, new int[] {20, 20, 3}, new int[] {1, 20});
        ofEstimate(24, "Returns what the player wins, the stake not included, if an estimate of an open question hits",
                EstimateContest::winnings, new int[] {18, 2, 2, 0, 0}, new int[] {2, 180, 12}, new int[] {9, 2});
    }

    /**
     * What is due, of the five players about question 4, of three estimates of other questions, and of the two whose
     * numbers are all the least or all the greatest.
     */
    private static void ofEstimate(int promise, String answer, Absent.EstimatesCall call, int[] players, int[] others,
            int[] ends) {
        Sentence.promise(promise, answer, () -> {
            Check.same("all least", call.at(withEnds(), 0, 0), ends[0]);
            Check.same("all greatest", call.at(withEnds(), 1, 0), ends[1]);
        });
        Sentence.promise(promise, PLAYER, () -> {
            for (int player = 0; player < 5; player++) {
                Check.same("player " + player, call.at(Scenes.made(Scenes::full), player, 4), players[player]);
            }
            Absent.noPlayersBeside((c, player) -> call.at(c, player, c.questionAt(0)));
        });
        Sentence.promise(promise, QUESTION, () -> {
            Check.same("the first", call.at(Scenes.made(Scenes::full), 4, 4), players[4]);
            Check.same("the last", call.at(Scenes.made(Scenes::full), 0, 3), others[0]);
            Check.same("the last", call.at(Scenes.made(Scenes::full), 4, 3), others[1]);
            Check.same("the second", call.at(Scenes.made(Scenes::full), 1, 5), others[2]);
            Absent.noQuestionsBeside((c, question) -> call.at(c, 0, question));
        });
        Sentence.promise(promise, NO_PLAYER, () -> Absent.players((c, player) -> call.at(c, player, 0)));
        Sentence.promise(promise, NO_QUESTION + ", or the player has made no estimate of it", () -> {
            Absent.questions((c, question) -> call.at(c, 0, question));
            Absent.estimates(call);
        });
    }

    private static EstimateContest withEnds() {
        EstimateContest contest = new EstimateContest();
        Scenes.players(contest, 2);
        contest.openQuestion(1);
        contest.estimate(1, 0, 999, 999, 9, 20);
        contest.estimate(0, 0, 0, 0, 1, 1);
        return contest;
    }

    private static void coverage() {
        Sentence.promise(25, "Returns how many estimates of an open question have an interval that contains a value",
                BoundariesOfQuestions::coverageCounts);
        Sentence.promise(25, QUESTION, () -> Absent.allQuestions((c, question) -> c.coverage(question, 910),
                0, 1, 4, 0, 0, 0, 0));
        Sentence.promise(25, "`value`: the value, 0 to 999", BoundariesOfQuestions::coverageTakes);
        Sentence.promise(25, NO_QUESTION, () -> Absent.questions((c, question) -> c.coverage(question, 0)));
        Sentence.promise(25, "Throws `IllegalArgumentException` if the value is out of range",
                BoundariesOfQuestions::coverageRefuses);
    }

    private static void coverageCounts() {
        EstimateContest contest = Scenes.made(Scenes::full);
        int[] values = {0, 5, 6, 9, 10, 19, 20, 29, 30, 39, 40, 910, 911, 920, 921, 930, 931, 940, 941, 999};
        int[] due = {1, 1, 0, 0, 1, 1, 2, 2, 3, 3, 4, 4, 3, 3, 2, 2, 1, 1, 0, 0};
        for (int i = 0; i < values.length; i++) {
            Check.same("coverage of " + values[i], contest.coverage(4, values[i]), due[i]);
        }
        EstimateContest five = Scenes.intervals(500, 500, 0, 999, 499, 500, 500, 501, 400, 600);
        int[] around = {2, 3, 5, 3, 2};
        for (int value = 498; value <= 502; value++) {
            Check.same("coverage of " + value, five.coverage(0, value), around[value - 498]);
        }
    }

    private static void coverageTakes() {
        EstimateContest contest = Scenes.intervals(0, 999, 0, 0, 999, 999);
        int[] values = {0, 1, 998, 999};
        int[] due = {2, 1, 1, 2};
        for (int i = 0; i < values.length; i++) {
            Check.same("coverage of " + values[i], contest.coverage(0, values[i]), due[i]);
        }
        for (int value : new int[] {-1, 1000}) {
            Check.fails("coverage of " + value, IllegalArgumentException.class, () -> contest.coverage(0, value));
        }
    }

    private static void coverageRefuses() {
        for (int value : new int[] {-1, 1000, Integer.MIN_VALUE, Integer.MAX_VALUE}) {
            Class<IllegalArgumentException> due = IllegalArgumentException.class;
            Check.refused("of estimates, " + value, due, Scenes::full, c -> c.coverage(3, value));
            Check.refused("of none, " + value, due, Scenes::full, c -> c.coverage(2, value));
        }
    }

    private static void mostCovered(int promise, Absent.CallOf call) {
        Sentence.promise(promise, QUESTION, () -> {
            Check.same("the first", call.at(Scenes.made(Scenes::full), 4), 40);
            Check.same("the second", call.at(Scenes.made(Scenes::full), 5), 7);
            Check.same("the last", call.at(Scenes.made(Scenes::full), 3), 999);
            Check.same("the only one", call.at(Scenes.made(Scenes::single), 0), 100);
            Absent.noQuestionsBeside(call);
        });
        Sentence.promise(promise, NO_QUESTION + ", or it has no estimates", () -> {
            Class<NoSuchElementException> due = NoSuchElementException.class;
            Absent.questions(call);
            Check.refused("no estimates", due, Scenes::full, c -> call.at(c, 2));
            Check.refused("no estimates of the first one", due, Scenes::questionsAlone, c -> call.at(c, 0));
            Check.refused("the only estimator is out", due, c -> {
                Scenes.full(c);
                c.withdraw(1);
            }, c -> call.at(c, 5));
            Check.refused("an undone estimate", due, c -> {
                Scenes.single(c);
                c.undo();
            }, c -> call.at(c, 0));
        });
    }

    private static void leastOfTheMost() {
        Sentence.promise(26, "Returns the value that is contained in most intervals of the estimates of an open question;"
                + " of several such values, the least one", () -> mostCoveredEdges(EstimateContest::mostCovered));
        Sentence.promise(27, "Returns the same value as mostCovered, but is computed by a sweep over the sorted ends of"
                + " the intervals", () -> mostCoveredEdges(EstimateContest::mostCoveredBySweep));
    }

    private static void mostCoveredEdges(Absent.CallOf call) {
        most(call, 0, 0, 0);
        most(call, 999, 999, 999);
        most(call, 0, 0, 999);
        most(call, 3, 8, 9, 3, 4);
        most(call, 20, 10, 20, 20, 30);
        most(call, 10, 10, 20, 21, 31);
        most(call, 21, 21, 31, 10, 21);
        most(call, 0, 0, 999, 0, 999, 0, 999, 0, 999, 0, 999);
        most(call, 999, 0, 999, 1, 999, 2, 999, 3, 999, 999, 999);
        most(call, 500, 504, 504, 503, 503, 502, 502, 501, 501, 500, 500);
        most(call, 0, 0, 1, 1, 2, 998, 999, 0, 0);
        most(call, 63, 63, 64, 0, 63, 64, 65);
        most(call, 64, 63, 64, 64, 65, 128, 200);
        most(call, 998, 998, 999, 990, 998, 999, 999);
        EstimateContest contest = Scenes.intervals(500, 510, 500, 520, 490, 500, 500, 500, 0, 999);
        contest.openQuestion(1);
        for (int player = 0; player < 5; player++) {
            contest.estimate(player, 1, 10 * player + 7, 10 * player + 16, 5, 1);
        }
        for (int round = 0; round < 2; round++) {
            Check.same("all share a value", call.at(contest, 0), 500);
            Check.same("no two share a value", call.at(contest, 1), 7);
        }
    }

    private static void most(Absent.CallOf call, int due, int... ends) {
        Check.same("of " + Arrays.toString(ends), call.at(Scenes.intervals(ends), 0), due);
    }

    private static void coveredValues() {
        Sentence.promise(28, "Returns how many values from 0 to 999 at least one estimate of an open question contains",
                BoundariesOfQuestions::coveredValuesCount);
        Sentence.promise(28, QUESTION,
                () -> Absent.allQuestions(EstimateContest::coveredValues, 0, 1000, 937, 2, 0, 0, 100));
        Sentence.promise(28, NO_QUESTION, () -> Absent.questions(EstimateContest::coveredValues));
    }

    private static void covered(int due, int... ends) {
        Check.same("of " + Arrays.toString(ends), Scenes.intervals(ends).coveredValues(0), due);
    }

    private static void coveredValuesCount() {
        Check.same("no estimates", Scenes.made(Scenes::questionsAlone).coveredValues(0), 0);
        covered(1, 0, 0);
        covered(1, 999, 999);
        covered(1000, 0, 999);
        covered(999, 0, 998);
        covered(999, 1, 999);
        covered(2, 0, 0, 999, 999);
        covered(1000, 0, 499, 500, 999);
        covered(999, 0, 499, 501, 999);
        covered(1000, 0, 500, 500, 999);
        covered(1, 7, 7, 7, 7, 7, 7, 7, 7, 7, 7);
        covered(1000, 0, 999, 0, 999, 0, 999, 0, 999, 0, 999);
        covered(10, 0, 1, 10, 11, 63, 64, 127, 128, 998, 999);
        covered(64, 64, 127);
        covered(66, 63, 128);
    }
}
