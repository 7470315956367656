import java.util.NoSuchElementException;
import java.util.function.Function;

/** A test for each sentence of the promises 1 to 7: a new object, players, questions, estimates and settling. */
final class BoundariesOfChanges {
    private BoundariesOfChanges() {
    }

    static void run() {
        Sentence.promise(1, "Creates a contest without players and questions", BoundariesOfChanges::newObject);
        Sentence.promise(2, "Returns the index of the player", BoundariesOfChanges::addPlayerAnswers);
        Sentence.promise(2, "Throws `IllegalStateException` if there are 5 players",
                BoundariesOfChanges::addPlayerRefuses);
        openQuestion();
        estimateRanges();
        estimateRefusals();
        settle();
        postpone();
        withdraw();
    }

    private static void openQuestion() {
        Sentence.promise(3, "`weight`: the weight, 1 to 3", BoundariesOfChanges::openQuestionTakes);
        Sentence.promise(3, "Returns the number of the question", BoundariesOfChanges::openQuestionAnswers);
        Sentence.promise(3, "Throws `IllegalArgumentException` if the weight is out of range",
                BoundariesOfChanges::openQuestionRefusesWeights);
        Sentence.promise(3, "Throws `IllegalStateException` if 6 questions are open",
                BoundariesOfChanges::openQuestionRefusesTheSeventh);
    }

    private static void estimateRanges() {
        Sentence.promise(4, "`player`: index of a player", BoundariesOfChanges::estimateTakesPlayers);
        Sentence.promise(4, "`question`: number of a question", BoundariesOfChanges::estimateTakesQuestions);
        Sentence.promise(4, "`low`: the low value, 0 to 999", BoundariesOfChanges::estimateTakesLows);
        Sentence.promise(4, "`high`: the high value, 0 to 999, not less than low",
                BoundariesOfChanges::estimateTakesHighs);
        Sentence.promise(4, "`confidence`: the confidence, 1 to 9", BoundariesOfChanges::estimateTakesConfidences);
        Sentence.promise(4, "`stake`: the stake, 1 to 20", BoundariesOfChanges::estimateTakesStakes);
        Sentence.promise(4, "Returns the coins of the player afterwards", BoundariesOfChanges::estimateAnswers);
    }

    private static void estimateRefusals() {
        Sentence.promise(4, "Throws `IndexOutOfBoundsException` if there is no such player",
                () -> Absent.players((c, player) -> c.estimate(player, 0, 0, 0, 1, 1)));
        Sentence.promise(4, "Throws `NoSuchElementException` if there is no such open question",
                () -> Absent.questions((c, question) -> c.estimate(0, question, 0, 0, 1, 1)));
        Sentence.promise(4, "Throws `IllegalArgumentException` if low, high, the confidence or the stake is out of range",
                BoundariesOfChanges::estimateRefusesRanges);
        Sentence.promise(4, "Throws `UnsupportedOperationException` if the player has withdrawn",
                BoundariesOfChanges::estimateRefusesWithdrawn);
        Sentence.promise(4, "Throws `IllegalStateException` if the player has made an estimate of this question, or has"
                + " fewer coins than the stake", BoundariesOfChanges::estimateRefusesNow);
    }

    private static void settle() {
        Sentence.promise(5, "`truth`: the true value, 0 to 999", BoundariesOfChanges::settleTakes);
        Sentence.promise(5, "Returns the number of estimates that hit", BoundariesOfChanges::settleAnswers);
        Sentence.promise(5, "Throws `IllegalArgumentException` if the true value is out of range",
                BoundariesOfChanges::settleRefusesTruths);
        Sentence.promise(5, "Throws `NoSuchElementException` if no question is open",
                () -> refusedWithoutQuestions(c -> c.settle(0)));
    }

    private static void postpone() {
        Sentence.promise(6, "Moves the first question of the queue to its end", BoundariesOfChanges::postponeMoves);
        Sentence.promise(6, "Returns the number of the question that is the first one then",
                BoundariesOfChanges::postponeAnswers);
        Sentence.promise(6, "Throws `NoSuchElementException` if no question is open",
                () -> refusedWithoutQuestions(c -> c.postpone()));
    }

    private static void withdraw() {
        Sentence.promise(7, "`player`: index of a player",
                () -> Absent.allPlayers(EstimateContest::withdraw, 2, 2, 1, 1, 2, 1));
        Sentence.promise(7, "Returns the number of estimates that are removed", BoundariesOfChanges::withdrawAnswers);
        Sentence.promise(7, "Throws `IndexOutOfBoundsException` if there is no such player",
                () -> Absent.players(EstimateContest::withdraw));
        Sentence.promise(7, "Throws `IllegalStateException` if the player has withdrawn",
                BoundariesOfChanges::withdrawRefuses);
    }

    private static void newObject() {
        EstimateContest contest = new EstimateContest();
        Check.same("playerCount", contest.playerCount(), 0);
        Check.same("openCount", contest.openCount(), 0);
        Check.same("settledQuestions", contest.settledQuestions(), 0);
        Check.same("houseCoins", contest.houseCoins(), 0);
        Check.same("stakedCoins", contest.stakedCoins(), 0);
        Check.same("undoCount", contest.undoCount(), 0);
        Check.same("isConsistent", contest.isConsistent(), true);
        Check.fails("coins", IndexOutOfBoundsException.class, () -> contest.coins(0));
        Check.fails("questionAt", NoSuchElementException.class, () -> contest.questionAt(0));
        Check.fails("recentTruth", NoSuchElementException.class, () -> contest.recentTruth(0));
        Check.fails("outputChar", IndexOutOfBoundsException.class, () -> contest.outputChar(0));
        Check.fails("errorPosition", NoSuchElementException.class, contest::errorPosition);
        Check.fails("failedCommand", NoSuchElementException.class, contest::failedCommand);
        Check.fails("undo", IllegalStateException.class, contest::undo);
        Check.fails("restore", IllegalStateException.class, contest::restore);
        Check.same("the first player", contest.addPlayer(), 0);
        Check.same("the first question", contest.openQuestion(1), 0);
        Check.same("the first character", contest.feed('x'), 1);
        Check.same("another object", new EstimateContest().playerCount(), 0);
    }

    private static void addPlayerAnswers() {
        EstimateContest contest = new EstimateContest();
        for (int player = 0; player < 5; player++) {
            Check.same("addPlayer", contest.addPlayer(), player);
        }
        contest.withdraw(4);
        contest.undo();
        contest.undo();
        Check.same("the last again", contest.addPlayer(), 4);
    }

    private static void addPlayerRefuses() {
        Class<IllegalStateException> due = IllegalStateException.class;
        Check.refused("a sixth", due, c -> Scenes.players(c, 5), c -> c.addPlayer());
        Check.refused("a sixth in a full contest", due, Scenes::full, c -> c.addPlayer());
        Check.refused("a sixth, all being out", due, c -> {
            Scenes.players(c, 5);
            for (int player = 0; player < 5; player++) {
                c.withdraw(player);
            }
        }, c -> c.addPlayer());
    }

    private static void openQuestionTakes() {
        for (int weight = 1; weight <= 3; weight++) {
            EstimateContest contest = new EstimateContest();
            Check.same("openQuestion " + weight, contest.openQuestion(weight), 0);
            Check.same("weight", contest.weight(0), weight);
        }
        for (int weight : new int[] {0, 4}) {
            Check.fails("openQuestion " + weight, IllegalArgumentException.class,
                    () -> new EstimateContest().openQuestion(weight));
        }
    }

    private static void openQuestionAnswers() {
        EstimateContest contest = new EstimateContest();
        for (int question = 0; question < 6; question++) {
            Check.same("openQuestion", contest.openQuestion(1), question);
        }
        contest.settle(0);
        Check.same("after a settled one", contest.openQuestion(3), 6);
    }

    private static void openQuestionRefusesWeights() {
        for (int weight : new int[] {0, 4, -1, -3, Integer.MIN_VALUE, Integer.MAX_VALUE}) {
            Class<IllegalArgumentException> due = IllegalArgumentException.class;
            Check.refused("weight " + weight, due, Scenes::busy, c -> c.openQuestion(weight));
            Check.refused("weight " + weight + " as the first", due, Scenes::empty, c -> c.openQuestion(weight));
            Check.refused("weight " + weight + " as the seventh", due, Scenes::full, c -> c.openQuestion(weight));
        }
    }

    private static void openQuestionRefusesTheSeventh() {
        Class<IllegalStateException> due = IllegalStateException.class;
        Check.refused("a seventh", due, Scenes::questionsAlone, c -> c.openQuestion(1));
        Check.refused("a seventh, the greatest weight", due, Scenes::full, c -> c.openQuestion(3));
        Check.refused("a seventh after a settled one", due, c -> {
            Scenes.full(c);
            c.settle(0);
            c.openQuestion(2);
        }, c -> c.openQuestion(1));
    }

    private static void estimateTakesPlayers() {
        int[] due = {86, 270, 91, 77, 78};
        for (int player = 0; player < 5; player++) {
            EstimateContest contest = Scenes.made(Scenes::full);
            Check.same("player " + player, contest.estimate(player, 2, 0, 0, 1, 1), due[player]);
            Check.same("is the estimator", contest.estimator(2, 0), player);
        }
        EstimateContest single = Scenes.made(Scenes::single);
        Check.same("player 0 of one", single.estimate(0, single.openQuestion(1), 0, 0, 1, 1), 89);
        Absent.noPlayersBeside((c, player) -> c.estimate(player, c.questionAt(0), 0, 0, 1, 1));
    }

    private static void estimateTakesQuestions() {
        EstimateContest contest = Scenes.made(Scenes::questionsAlone);
        contest.postpone();
        for (int question : new int[] {5, 0, 1, 2, 3, 4}) {
            contest.estimate(0, question, question, 10, 5, 1);
            Check.same("low of " + question, contest.low(0, question), question);
        }
        Check.same("stakes", contest.stakedCoins(), 6);
        Absent.noQuestionsBeside((c, question) -> c.estimate(0, question, 0, 0, 1, 1));
    }

    /** Makes the estimate as the only one. */
    private static EstimateContest with(int low, int high, int confidence, int stake) {
        EstimateContest contest = new EstimateContest();
        contest.addPlayer();
        contest.openQuestion(1);
        contest.estimate(0, 0, low, high, confidence, stake);
        return contest;
    }

    private static void notTaken(int low, int high, int confidence, int stake) {
        Check.fails("estimate " + low + "-" + high + " " + confidence + " " + stake, IllegalArgumentException.class,
                () -> with(low, high, confidence, stake));
    }

    private static void estimateTakesLows() {
        Check.same("low 0", with(0, 999, 5, 5).low(0, 0), 0);
        Check.same("low 1", with(1, 999, 5, 5).low(0, 0), 1);
        Check.same("low 998", with(998, 999, 5, 5).low(0, 0), 998);
        Check.same("low 999", with(999, 999, 5, 5).low(0, 0), 999);
        notTaken(-1, 999, 5, 5);
        notTaken(1000, 999, 5, 5);
        notTaken(1000, 1000, 5, 5);
    }

    private static void estimateTakesHighs() {
        Check.same("high 0", with(0, 0, 5, 5).high(0, 0), 0);
        Check.same("high 1", with(0, 1, 5, 5).high(0, 0), 1);
        Check.same("high 998", with(0, 998, 5, 5).high(0, 0), 998);
        Check.same("high 999", with(0, 999, 5, 5).high(0, 0), 999);
        Check.same("high equal to low", with(500, 500, 5, 5).high(0, 0), 500);
        Check.same("high greater by 1", with(500, 501, 5, 5).high(0, 0), 501);
        notTaken(0, -1, 5, 5);
        notTaken(-1, -1, 5, 5);
        notTaken(0, 1000, 5, 5);
        notTaken(500, 499, 5, 5);
    }

    private static void estimateTakesConfidences() {
        for (int confidence = 1; confidence <= 9; confidence++) {
            Check.same("confidence", with(5, 6, confidence, 5).confidence(0, 0), confidence);
        }
        notTaken(5, 6, 0, 5);
        notTaken(5, 6, 10, 5);
    }

    private static void estimateTakesStakes() {
        for (int stake = 1; stake <= 20; stake++) {
            Check.same("stake", with(5, 6, 5, stake).stake(0, 0), stake);
        }
        notTaken(5, 6, 5, 0);
        notTaken(5, 6, 5, 21);
    }

    private static void estimateAnswers() {
        EstimateContest contest = new EstimateContest();
        Scenes.players(contest, 2);
        Scenes.questions(contest, 6);
        for (int question = 0; question < 4; question++) {
            contest.estimate(0, question, 0, 0, 1, 20);
        }
        Check.same("down to 1", contest.estimate(0, 4, 0, 0, 1, 19), 1);
        Check.same("down to 0", contest.estimate(0, 5, 0, 0, 1, 1), 0);
        Check.same("the other player", contest.estimate(1, 5, 0, 0, 1, 1), 99);
    }

    private static void refusesRange(int low, int high, int confidence, int stake) {
        Check.refused("estimate " + low + "-" + high + " " + confidence + " " + stake, IllegalArgumentException.class,
                Scenes::full, c -> c.estimate(0, 2, low, high, confidence, stake));
    }

    private static void estimateRefusesRanges() {
        for (int value : new int[] {-1, 1000, Integer.MIN_VALUE, Integer.MAX_VALUE}) {
            refusesRange(value, 999, 5, 5);
            refusesRange(0, value, 5, 5);
            refusesRange(value, value, 5, 5);
        }
        refusesRange(1, 0, 5, 5);
        refusesRange(999, 998, 5, 5);
        refusesRange(999, 0, 5, 5);
        for (int confidence : new int[] {0, 10, -1, Integer.MIN_VALUE, Integer.MAX_VALUE}) {
            refusesRange(0, 999, confidence, 5);
        }
        for (int stake : new int[] {0, 21, -1, Integer.MIN_VALUE, Integer.MAX_VALUE}) {
            refusesRange(0, 999, 5, stake);
        }
    }

    private static void estimateRefusesWithdrawn() {
        for (int player : new int[] {0, 4}) {
            Check.refused("a withdrawn player " + player, UnsupportedOperationException.class, c -> {
                Scenes.full(c);
                c.withdraw(player);
            }, c -> c.estimate(player, 4, 0, 999, 9, 20));
        }
        EstimateContest contest = Scenes.made(Scenes::full);
        contest.withdraw(4);
        contest.undo();
        Check.same("one who is not out again", contest.estimate(4, 2, 0, 999, 9, 20), 59);
    }

    /** Leaves player 0 the coins given, and a question to estimate. */
    private static void poor(EstimateContest contest, int coins) {
        contest.addPlayer();
        for (int lost = 100 - coins; lost > 0; lost -= Math.min(lost, 20)) {
            contest.estimate(0, contest.openQuestion(1), 0, 0, 1, Math.min(lost, 20));
            contest.settle(999);
        }
        contest.openQuestion(1);
    }

    private static void estimateRefusesNow() {
        Class<IllegalStateException> due = IllegalStateException.class;
        for (int player = 0; player < 5; player++) {
            int bettor = player;
            Check.refused("a second one of " + player, due, Scenes::full, c -> c.estimate(bettor, 4, 1, 2, 3, 4));
        }
        for (int coins : new int[] {0, 1, 7, 19}) {
            Check.refused((coins + 1) + " of " + coins, due, c -> poor(c, coins),
                    c -> c.estimate(0, c.questionAt(0), 0, 0, 1, coins + 1));
            Check.refused("20 of " + coins, due, c -> poor(c, coins), c -> c.estimate(0, c.questionAt(0), 0, 0, 1, 20));
        }
        for (int coins : new int[] {1, 7, 19, 20}) {
            EstimateContest contest = Scenes.made(c -> poor(c, coins));
            Check.same("all of " + coins, contest.estimate(0, contest.questionAt(0), 0, 0, 1, coins), 0);
        }
    }

    private static void settleTakes() {
        EstimateContest contest = new EstimateContest();
        Scenes.questions(contest, 5);
        for (int truth : new int[] {0, 1, 998, 999}) {
            Check.same("settle " + truth, contest.settle(truth), 0);
            Check.same("recentTruth", contest.recentTruth(0), truth);
        }
        for (int truth : new int[] {-1, 1000}) {
            Check.fails("settle " + truth, IllegalArgumentException.class, () -> contest.settle(truth));
        }
    }

    private static void settleAnswers() {
        int[] truths = {0, 7, 10, 25, 35, 40, 910, 930, 940, 941};
        int[] hits = {1, 0, 1, 2, 3, 4, 4, 2, 1, 0};
        for (int i = 0; i < truths.length; i++) {
            Check.same("settle " + truths[i], Scenes.made(Scenes::full).settle(truths[i]), hits[i]);
        }
        EstimateContest contest = new EstimateContest();
        Scenes.players(contest, 5);
        Scenes.questions(contest, 2);
        for (int player = 0; player < 5; player++) {
            contest.estimate(player, 0, 500, 500, 5, 5);
        }
        Check.same("all five hit", contest.settle(500), 5);
        Check.same("no estimate", contest.settle(500), 0);
    }

    private static void settleRefusesTruths() {
        for (int truth : new int[] {-1, 1000, Integer.MIN_VALUE, Integer.MAX_VALUE}) {
            Class<IllegalArgumentException> due = IllegalArgumentException.class;
            Check.refused("settle " + truth, due, Scenes::full, c -> c.settle(truth));
            Check.refused("settle " + truth + " without a question", due, c -> Scenes.players(c, 2),
                    c -> c.settle(truth));
        }
    }

    private static void refusedWithoutQuestions(Function<EstimateContest, Object> call) {
        Class<NoSuchElementException> due = NoSuchElementException.class;
        Check.refused("nothing there", due, Scenes::empty, call);
        Check.refused("players alone", due, c -> Scenes.players(c, 5), call);
        Check.refused("the only one settled", due, c -> {
            Scenes.single(c);
            c.settle(100);
        }, call);
        Check.refused("the only one undone", due, c -> {
            c.openQuestion(1);
            c.undo();
        }, call);
        Check.refused("all six settled", due, c -> {
            Scenes.full(c);
            for (int i = 0; i < 6; i++) {
                c.settle(i);
            }
        }, call);
    }

    private static void queueIs(EstimateContest contest, int... due) {
        Check.same("openCount", contest.openCount(), due.length);
        for (int place = 0; place < due.length; place++) {
            Check.same("questionAt " + place, contest.questionAt(place), due[place]);
            Check.same("positionOf " + due[place], contest.positionOf(due[place]), place);
        }
    }

    private static void postponeMoves() {
        EstimateContest contest = new EstimateContest();
        contest.openQuestion(1);
        contest.postpone();
        queueIs(contest, 0);
        contest.openQuestion(1);
        contest.postpone();
        queueIs(contest, 1, 0);
        contest.postpone();
        queueIs(contest, 0, 1);
        contest.openQuestion(1);
        contest.postpone();
        queueIs(contest, 1, 2, 0);
        EstimateContest full = Scenes.made(Scenes::full);
        full.postpone();
        queueIs(full, 5, 6, 7, 2, 3, 4);
        for (int i = 0; i < 5; i++) {
            full.postpone();
        }
        queueIs(full, 4, 5, 6, 7, 2, 3);
        Check.same("its estimates go along", full.estimateCount(4), 5);
    }

    private static void postponeAnswers() {
        EstimateContest contest = new EstimateContest();
        contest.openQuestion(1);
        Check.same("the only one", contest.postpone(), 0);
        contest.openQuestion(1);
        Check.same("two", contest.postpone(), 1);
        Check.same("two", contest.postpone(), 0);
        EstimateContest full = Scenes.made(Scenes::full);
        for (int due : new int[] {5, 6, 7, 2, 3, 4, 5}) {
            Check.same("six", full.postpone(), due);
        }
    }

    private static void withdrawAnswers() {
        EstimateContest contest = new EstimateContest();
        Scenes.players(contest, 2);
        Scenes.questions(contest, 6);
        for (int question = 0; question < 6; question++) {
            contest.estimate(1, question, 0, 0, 1, 1);
        }
        Check.same("none", contest.withdraw(0), 0);
        Check.same("all six", contest.withdraw(1), 6);
        contest.undo();
        contest.settle(0);
        Check.same("a settled one is not removed", contest.withdraw(1), 5);
        contest.addPlayer();
        for (int i = 0; i < 5; i++) {
            contest.settle(0);
        }
        Check.same("no question", contest.withdraw(2), 0);
    }

    private static void withdrawRefuses() {
        for (int player = 0; player < 5; player++) {
            int leaver = player;
            Check.refused("again " + player, IllegalStateException.class, c -> {
                Scenes.full(c);
                c.withdraw(leaver);
            }, c -> c.withdraw(leaver));
        }
        Check.refused("again, without estimates", IllegalStateException.class, c -> {
            c.addPlayer();
            c.withdraw(0);
        }, c -> c.withdraw(0));
        EstimateContest contest = Scenes.made(Scenes::single);
        contest.withdraw(0);
        contest.undo();
        Check.same("after undo", contest.withdraw(0), 1);
    }
}
