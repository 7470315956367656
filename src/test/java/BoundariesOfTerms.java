import java.util.NoSuchElementException;

/** A test for each sentence of the sections 'What it is' and 'Terms', but for those of commands, undo and errors. */
final class BoundariesOfTerms {
    private BoundariesOfTerms() {
    }

    static void run() {
        Sentence.test("What it is",
                "An object is used for at most 512 calls after it has been made; what later calls answer is free",
                BoundariesOfTerms::theLastCall);
        players();
        questions();
        estimates();
        settling();
        scores();
        Sentence.term("Withdrawing", "When a player withdraws, the estimates of this player of open questions are"
                + " removed, and their stakes are given back", BoundariesOfTerms::withdrawing);
    }

    private static void players() {
        Sentence.term("Players", "There are at most 5 players", BoundariesOfTerms::fivePlayers);
        Sentence.term("Players", "Their indices start at 0, follow the order in which they joined, and never change",
                BoundariesOfTerms::indices);
        Sentence.term("Players", "A player has 100 coins when joining", BoundariesOfTerms::firstCoins);
        Sentence.term("Players", "A player who has withdrawn makes no more estimates",
                BoundariesOfTerms::withdrawnPlayers);
    }

    private static void questions() {
        Sentence.term("Questions", "Questions have numbers: the first one has the number 0, and each further one has the"
                + " number of the question before it plus 1", BoundariesOfTerms::numbers);
        Sentence.term("Questions", "A question has a weight from 1 to 3", BoundariesOfTerms::weights);
        Sentence.term("Questions", "It is open until it is settled; at most 6 questions are open",
                BoundariesOfTerms::sixQuestions);
        Sentence.term("Questions", "The open questions form a queue; a new question is added at the end",
                BoundariesOfTerms::queue);
    }

    private static void estimates() {
        Sentence.term("Estimates", "A player makes at most one estimate of a question",
                BoundariesOfTerms::oneEstimate);
        Sentence.term("Estimates", "An estimate is an interval from a low value to a high value, both included and both"
                + " from 0 to 999, with a confidence from 1 to 9 and a stake from 1 to 20 coins",
                BoundariesOfTerms::estimateRanges);
        Sentence.term("Estimates", "The stake is taken from the coins of the player when the estimate is made",
                BoundariesOfTerms::stakesAreTaken);
    }

    private static void settling() {
        Sentence.term("Settling", "The first question of the queue is settled by its true value, and is then no longer"
                + " open", BoundariesOfTerms::theFirstIsSettled);
        Sentence.term("Settling", "Its estimates are processed in the order in which they were made",
                BoundariesOfTerms::allAreProcessed);
        Sentence.term("Settling", "An estimate hits if its interval contains the true value", BoundariesOfTerms::hits);
        Sentence.term("Settling", "For a hit, the player gets the stake back and wins the stake times the difference of"
                + " 10 and the confidence, divided by the confidence, rounded down, which the house pays",
                BoundariesOfTerms::prizes);
        Sentence.term("Settling", "Otherwise the house gets the stake", BoundariesOfTerms::misses);
        Sentence.term("Settling", "The coins of the house are 0 at first and can become negative",
                BoundariesOfTerms::house);
    }

    private static void scores() {
        Sentence.term("Scores", "The score of a settled estimate is the weight of the question times the sum of two"
                + " numbers: the high value minus the low value; and 20 times the distance of the true value from the"
                + " interval, divided by the difference of 10 and the confidence, rounded down",
                BoundariesOfTerms::scoreEdges);
        Sentence.term("Scores", "The distance is 0 for a hit", BoundariesOfTerms::distances);
        Sentence.term("Scores", "The score of a player is the sum of the scores of all settled estimates of this player;"
                + " a smaller score is better", BoundariesOfTerms::sumsOfScores);
        Sentence.term("Calibration", "For each confidence there is a bin with the number of settled estimates of that"
                + " confidence, and the number of those that hit", BoundariesOfTerms::bins);
        Sentence.term("Calibration", "The calibration error of a player is the sum, over all confidences c, of the"
                + " absolute difference of 10 times the hits and c times the number of the settled estimates of this"
                + " player with the confidence c", BoundariesOfTerms::calibrationErrors);
        Sentence.term("Details", "The quotient in a score is rounded down by itself, before it is added and multiplied",
                BoundariesOfTerms::quotients);
        Sentence.term("Details", "bestCalibrated considers players who have withdrawn, too",
                BoundariesOfTerms::withdrawnAndCalibrated);
        Sentence.term("Details", "In playerByScore, players without settled estimates have the score 0",
                BoundariesOfTerms::scoresOfNone);
        Sentence.term("Details", "Undoing a settlement brings back the true value that it displaced",
                BoundariesOfTerms::displacedTruths);
    }

    /** The calls before the last one are even in number, so that 511 are made by 255 rounds of two and one more. */
    private static void theLastCall() {
        EstimateContest settled = rounds(c -> c.openQuestion(1), c -> c.settle(999));
        Check.same("the 511th call", settled.openQuestion(3), 255);
        Check.same("the 512th call, settle", settled.settle(0), 0);
        EstimateContest opened = rounds(c -> c.openQuestion(1), c -> c.settle(999));
        Check.same("the 511th call", opened.settledQuestions(), 255);
        Check.same("the 512th call, openQuestion", opened.openQuestion(2), 255);
        EstimateContest undone = rounds(c -> c.addPlayer(), c -> c.undo());
        Check.same("the 511th call", undone.addPlayer(), 0);
        Check.same("the 512th call, undo", undone.undo(), 0);
        EstimateContest run = rounds(c -> c.feed('?'), c -> Check.outcome(c::runCommands));
        Check.same("the 511th call", run.feed('?'), 1);
        Check.fails("the 512th call, runCommands", IllegalArgumentException.class, run::runCommands);
        EstimateContest saved = rounds(c -> c.save(), c -> c.restore());
        Check.same("the 511th call", saved.openQuestion(1), 0);
        Check.same("the 512th call, save", saved.save(), 1);
    }

    private interface Call {
        void make(EstimateContest contest);
    }

    private static EstimateContest rounds(Call one, Call other) {
        EstimateContest contest = new EstimateContest();
        for (int i = 0; i < 255; i++) {
            one.make(contest);
            other.make(contest);
        }
        return contest;
    }

    private static void fivePlayers() {
        EstimateContest contest = new EstimateContest();
        Check.same("no player", contest.playerCount(), 0);
        Scenes.players(contest, 4);
        Check.same("the fifth", contest.addPlayer(), 4);
        Check.same("five", contest.playerCount(), 5);
        Check.fails("the sixth", IllegalStateException.class, contest::addPlayer);
        Check.fails("the sixth in a text", UnsupportedOperationException.class, () -> View.run(contest, "player"));
        contest.withdraw(2);
        Check.fails("the sixth, one being out", IllegalStateException.class, contest::addPlayer);
        Check.same("still five", contest.playerCount(), 5);
        contest.undo();
        contest.undo();
        Check.same("the fifth again", contest.addPlayer(), 4);
        Check.fails("the sixth again", IllegalStateException.class, contest::addPlayer);
    }

    private static void indices() {
        EstimateContest contest = new EstimateContest();
        contest.openQuestion(1);
        for (int player = 0; player < 5; player++) {
            Check.same("index", contest.addPlayer(), player);
            contest.estimate(player, 0, player, player, 1, player + 1);
        }
        contest.withdraw(0);
        contest.withdraw(3);
        int[] coins = {100, 98, 97, 100, 95};
        for (int player = 0; player < 5; player++) {
            Check.same("coins of " + player, contest.coins(player), coins[player]);
            Check.same("is out " + player, contest.hasWithdrawn(player), player == 0 || player == 3);
        }
        Check.same("low of 1", contest.low(1, 0), 1);
        Check.same("low of 4", contest.low(4, 0), 4);
        contest.settle(4);
        Check.same("hits of 4", contest.hits(4), 1);
        Check.same("hits of 3", contest.hits(3), 0);
        Check.fails("before the first", IndexOutOfBoundsException.class, () -> contest.coins(-1));
        Check.fails("behind the last", IndexOutOfBoundsException.class, () -> contest.coins(5));
    }

    private static void firstCoins() {
        EstimateContest contest = new EstimateContest();
        contest.addPlayer();
        Check.same("the first", contest.coins(0), 100);
        contest.openQuestion(1);
        contest.estimate(0, 0, 0, 0, 1, 20);
        contest.settle(0);
        View.run(contest, "player;player;player;player");
        Check.same("the fifth", contest.coins(4), 100);
        contest.estimate(4, contest.openQuestion(1), 0, 0, 1, 20);
        contest.settle(1);
        Check.same("the fifth has lost", contest.coins(4), 80);
        for (int i = 0; i < 4; i++) {
            contest.undo();
        }
        Check.same("the others are undone", contest.playerCount(), 1);
        Check.same("the second", contest.addPlayer(), 1);
        Check.same("the second's coins", contest.coins(1), 100);
        View.run(contest, "player;player;player");
        Check.same("the fifth again", contest.coins(4), 100);
        Check.same("the first is as it was", contest.coins(0), 280);
    }

    private static void withdrawnPlayers() {
        EstimateContest contest = Scenes.made(Scenes::full);
        contest.withdraw(3);
        Check.fails("an older question", UnsupportedOperationException.class,
                () -> contest.estimate(3, 3, 1, 2, 3, 4));
        contest.settle(0);
        int question = contest.openQuestion(1);
        Check.fails("a newer question", UnsupportedOperationException.class,
                () -> contest.estimate(3, question, 1, 2, 3, 4));
        Check.same("the next player", contest.estimate(4, question, 1, 2, 3, 4), 75);
        View.ofInput(contest);
        Check.fails("in a text", UnsupportedOperationException.class, () -> View.run(contest, "bet 3 8 1-2 3 4"));
        for (int i = 0; i < 4; i++) {
            contest.undo();
        }
        Check.same("not out again", contest.estimate(3, 3, 1, 2, 3, 4), 74);
    }

    private static void numbers() {
        EstimateContest contest = new EstimateContest();
        Check.same("the first", contest.openQuestion(1), 0);
        Check.fails("refused", IllegalArgumentException.class, () -> contest.openQuestion(0));
        Check.same("after a refused one", contest.openQuestion(1), 1);
        contest.settle(0);
        contest.settle(0);
        Check.same("after all were settled", contest.openQuestion(1), 2);
        contest.undo();
        Check.same("after an undone one", contest.openQuestion(1), 2);
        Check.fails("a text fails", UnsupportedOperationException.class, () -> View.run(contest, "open 1;open 4"));
        Check.same("after a failed text", contest.openQuestion(1), 3);
        View.run(contest, "open 1;settle 1;open 2");
        Check.same("in a text", contest.questionAt(2), 5);
        contest.postpone();
        Check.same("after a postponed one", contest.openQuestion(1), 6);
        contest.save();
        contest.settle(0);
        contest.openQuestion(1);
        contest.restore();
        contest.settle(0);
        Check.same("after a restored state", contest.openQuestion(1), 7);
        for (int number = 8; number <= 101; number++) {
            contest.settle(0);
            Check.same("and on", contest.openQuestion(1), number);
        }
    }

    private static void weights() {
        EstimateContest contest = new EstimateContest();
        Check.fails("0", IllegalArgumentException.class, () -> contest.openQuestion(0));
        Check.same("1", contest.weight(contest.openQuestion(1)), 1);
        Check.same("2", contest.weight(contest.openQuestion(2)), 2);
        Check.same("3", contest.weight(contest.openQuestion(3)), 3);
        Check.fails("4", IllegalArgumentException.class, () -> contest.openQuestion(4));
        Check.fails("0 in a text", UnsupportedOperationException.class, () -> View.run(contest, "open 0"));
        Check.same("1 in a text", View.run(contest, "open 1"), 1);
        Check.same("3 in a text", View.run(contest, "open 3"), 1);
        Check.fails("4 in a text", UnsupportedOperationException.class, () -> View.run(contest, "open 4"));
        Check.same("weight of the first in a text", contest.weight(3), 1);
        Check.same("weight of the last in a text", contest.weight(4), 3);
    }

    private static void sixQuestions() {
        EstimateContest contest = new EstimateContest();
        Scenes.questions(contest, 5);
        Check.same("the sixth", contest.openQuestion(3), 5);
        Check.fails("the seventh", IllegalStateException.class, () -> contest.openQuestion(3));
        Check.fails("the seventh in a text", UnsupportedOperationException.class, () -> View.run(contest, "open 3"));
        contest.postpone();
        Check.same("six are open", contest.openCount(), 6);
        Check.same("the first is open", contest.positionOf(0), 5);
        Check.same("the last is open", contest.positionOf(5), 4);
        Check.same("settle", contest.settle(1), 0);
        Check.fails("the settled one", NoSuchElementException.class, () -> contest.positionOf(1));
        Check.same("the sixth again", contest.openQuestion(3), 6);
        Check.fails("the seventh again", IllegalStateException.class, () -> contest.openQuestion(3));
    }

    /** Takes the queue round twice: each question in turn goes to the end or gives way to a new one. */
    private static void queue() {
        EstimateContest contest = new EstimateContest();
        contest.openQuestion(1);
        Check.same("at the end of none", contest.questionAt(0), 0);
        Scenes.questions(contest, 5);
        for (int i = 0; i < 6; i++) {
            Check.same("postpone", contest.postpone(), (i + 1) % 6);
            Check.same("goes to the end", contest.questionAt(5), i);
        }
        for (int i = 0; i < 12; i++) {
            contest.settle(0);
            contest.openQuestion(1);
            Check.same("the first", contest.questionAt(0), i + 1);
            Check.same("the end", contest.questionAt(5), i + 6);
            Check.same("place of the new one", contest.positionOf(i + 6), 5);
        }
        for (int left = 5; left >= 0; left--) {
            contest.settle(0);
            Check.same("openCount", contest.openCount(), left);
        }
        Check.same("a new one", contest.openQuestion(1), 18);
        Check.same("is the first", contest.questionAt(0), 18);
    }

    private static void oneEstimate() {
        EstimateContest contest = new EstimateContest();
        Scenes.players(contest, 5);
        Scenes.questions(contest, 2);
        for (int player = 4; player >= 0; player--) {
            int bettor = player;
            contest.estimate(player, 0, 1, 2, 3, 4);
            Check.fails("a second one, other values", IllegalStateException.class,
                    () -> contest.estimate(bettor, 0, 5, 6, 7, 8));
        }
        Check.same("five", contest.estimateCount(0), 5);
        Check.fails("a second one of the first", IllegalStateException.class,
                () -> contest.estimate(4, 0, 1, 2, 3, 4));
        Check.same("of another question", contest.estimate(0, 1, 1, 2, 3, 4), 92);
        contest.undo();
        contest.undo();
        Check.same("after undo", contest.estimate(0, 0, 5, 6, 7, 8), 92);
    }

    private static String estimateOf(int low, int high, int confidence, int stake) {
        EstimateContest contest = new EstimateContest();
        contest.addPlayer();
        contest.openQuestion(1);
        return Check.outcome(() -> contest.estimate(0, 0, low, high, confidence, stake));
    }

    private static void estimateRanges() {
        String refused = "throws IllegalArgumentException";
        Check.same("the least", estimateOf(0, 0, 1, 1), "99");
        Check.same("the greatest", estimateOf(999, 999, 9, 20), "80");
        Check.same("the widest", estimateOf(0, 999, 9, 20), "80");
        Check.same("low -1", estimateOf(-1, 0, 1, 1), refused);
        Check.same("high 1000", estimateOf(999, 1000, 1, 1), refused);
        Check.same("low 1000", estimateOf(1000, 1000, 1, 1), refused);
        Check.same("high -1", estimateOf(-1, -1, 1, 1), refused);
        Check.same("high less than low by 1", estimateOf(6, 5, 1, 1), refused);
        Check.same("high equal to low", estimateOf(5, 5, 1, 1), "99");
        Check.same("confidence 0", estimateOf(0, 0, 0, 1), refused);
        Check.same("confidence 10", estimateOf(0, 0, 10, 1), refused);
        Check.same("stake 0", estimateOf(0, 0, 1, 0), refused);
        Check.same("stake 21", estimateOf(0, 0, 1, 21), refused);
        EstimateContest contest = Scenes.made(Scenes::single);
        int[] values = {99, 100, 199, 200};
        int[] covered = {0, 1, 1, 0};
        for (int i = 0; i < values.length; i++) {
            Check.same("both ends included, " + values[i], contest.coverage(0, values[i]), covered[i]);
        }
        Check.same("values from 100 to 199", contest.coveredValues(0), 100);
    }

    private static void stakesAreTaken() {
        EstimateContest contest = new EstimateContest();
        contest.addPlayer();
        Scenes.questions(contest, 6);
        for (int question = 0; question < 5; question++) {
            Check.same("coins", contest.estimate(0, question, 0, 0, 1, 20), 80 - 20 * question);
            Check.same("taken at once", contest.coins(0), 80 - 20 * question);
        }
        Check.fails("no coins are left", IllegalStateException.class, () -> contest.estimate(0, 5, 0, 0, 1, 1));
        Check.same("all are staked", contest.stakedCoins(), 100);
        contest.undo();
        Check.same("given back by undo", contest.coins(0), 20);
        Check.same("the last stake", contest.estimate(0, 5, 0, 0, 1, 20), 0);
    }

    private static void theFirstIsSettled() {
        EstimateContest contest = Scenes.made(Scenes::full);
        Check.same("the first of six", contest.settle(5), 1);
        Check.fails("is not open", NoSuchElementException.class, () -> contest.weight(4));
        Check.same("the next one", contest.questionAt(0), 5);
        for (int next : new int[] {6, 7, 2, 3}) {
            contest.settle(5);
            Check.same("the next one", contest.questionAt(0), next);
        }
        Check.same("the last", contest.settle(999), 2);
        Check.same("none is open", contest.openCount(), 0);
        Check.fails("none to settle", NoSuchElementException.class, () -> contest.settle(0));
    }

    private static void allAreProcessed() {
        EstimateContest contest = Scenes.made(Scenes::full);
        Check.same("five estimates", contest.settle(930), 2);
        int[] counts = {2, 3, 2, 3, 2};
        for (int player = 0; player < 5; player++) {
            Check.same("settledEstimates of " + player, contest.settledEstimates(player), counts[player]);
        }
        Check.same("one estimate", contest.settle(7), 1);
        Check.same("settledEstimates", contest.settledEstimates(1), 4);
        Check.same("house", contest.houseCoins(), -165 + 2 + 4 + 5 - 12);
        Check.same("no estimate", contest.settle(7), 0);
        Check.same("house", contest.houseCoins(), -166);
    }

    private static void hits() {
        hit(100, 199, 99, 0);
        hit(100, 199, 100, 1);
        hit(100, 199, 199, 1);
        hit(100, 199, 200, 0);
        hit(500, 500, 499, 0);
        hit(500, 500, 500, 1);
        hit(500, 500, 501, 0);
        hit(0, 0, 0, 1);
        hit(0, 0, 1, 0);
        hit(999, 999, 998, 0);
        hit(999, 999, 999, 1);
        hit(0, 999, 0, 1);
        hit(0, 999, 999, 1);
    }

    private static EstimateContest settled(int weight, int low, int high, int confidence, int truth) {
        EstimateContest contest = new EstimateContest();
        contest.addPlayer();
        contest.openQuestion(weight);
        contest.estimate(0, 0, low, high, confidence, 10);
        contest.settle(truth);
        return contest;
    }

    private static void hit(int low, int high, int truth, int due) {
        Check.same(truth + " in " + low + "-" + high, settled(1, low, high, 5, truth).hits(0), due);
    }

    /** The due prize is the greatest number whose product with the confidence is not too great. */
    private static void prizes() {
        for (int confidence = 1; confidence <= 9; confidence++) {
            for (int stake = 1; stake <= 20; stake++) {
                int due = 0;
                while ((due + 1) * confidence <= stake * (10 - confidence)) {
                    due++;
                }
                EstimateContest contest = new EstimateContest();
                contest.addPlayer();
                contest.openQuestion(1);
                contest.estimate(0, 0, 0, 0, confidence, stake);
                Check.same("winnings, " + stake + " at " + confidence, contest.winnings(0, 0), due);
                contest.settle(0);
                Check.same("coins, " + stake + " at " + confidence, contest.coins(0), 100 + due);
                Check.same("house, " + stake + " at " + confidence, contest.houseCoins(), -due);
            }
        }
    }

    private static void misses() {
        for (int confidence = 1; confidence <= 9; confidence++) {
            for (int stake : new int[] {1, 20}) {
                EstimateContest contest = new EstimateContest();
                contest.addPlayer();
                contest.openQuestion(1);
                contest.estimate(0, 0, 5, 5, confidence, stake);
                contest.settle(4);
                Check.same("coins, " + stake + " at " + confidence, contest.coins(0), 100 - stake);
                Check.same("house, " + stake + " at " + confidence, contest.houseCoins(), stake);
            }
        }
    }

    private static void house() {
        EstimateContest contest = new EstimateContest();
        Check.same("at first", contest.houseCoins(), 0);
        contest.addPlayer();
        contest.openQuestion(1);
        contest.estimate(0, 0, 0, 0, 5, 1);
        Check.same("a stake is not the house's yet", contest.houseCoins(), 0);
        contest.settle(0);
        Check.same("just negative", contest.houseCoins(), -1);
        contest.estimate(0, contest.openQuestion(1), 0, 0, 5, 1);
        contest.settle(1);
        Check.same("0 again", contest.houseCoins(), 0);
        Scenes.players(contest, 4);
        int question = contest.openQuestion(1);
        for (int player = 0; player < 5; player++) {
            contest.estimate(player, question, 0, 0, 1, 20);
        }
        contest.settle(0);
        Check.same("the most for a question", contest.houseCoins(), -900);
    }

    private static void scoreEdges() {
        Check.same("the least", settled(1, 7, 7, 1, 7).score(0), 0);
        Check.same("weight 1, width 1", settled(1, 7, 8, 1, 7).score(0), 1);
        Check.same("weight 3, width 1", settled(3, 7, 8, 1, 8).score(0), 3);
        Check.same("the widest", settled(3, 0, 999, 9, 0).score(0), 2997);
        Check.same("the farthest above", settled(3, 0, 0, 9, 999).score(0), 59940);
        Check.same("the farthest below", settled(3, 999, 999, 9, 0).score(0), 59940);
        Check.same("the farthest, least sure", settled(1, 0, 0, 1, 999).score(0), 2220);
        int[] due = {2, 2, 2, 3, 4, 5, 6, 10, 20};
        for (int confidence = 1; confidence <= 9; confidence++) {
            Check.same("by 1 above", settled(1, 5, 5, confidence, 6).score(0), due[confidence - 1]);
            Check.same("by 1 below", settled(1, 5, 5, confidence, 4).score(0), due[confidence - 1]);
        }
        Check.same("an exact quotient", settled(1, 5, 5, 1, 14).score(0), 20);
        Check.same("just below it", settled(1, 5, 5, 1, 13).score(0), 17);
    }

    private static void distances() {
        Check.same("the low value", settled(1, 100, 110, 9, 100).score(0), 10);
        Check.same("the high value", settled(1, 100, 110, 9, 110).score(0), 10);
        Check.same("within", settled(1, 100, 110, 9, 105).score(0), 10);
        Check.same("1 below", settled(1, 100, 110, 9, 99).score(0), 30);
        Check.same("1 above", settled(1, 100, 110, 9, 111).score(0), 30);
    }

    private static void sumsOfScores() {
        EstimateContest contest = new EstimateContest();
        Scenes.players(contest, 2);
        Check.same("of none", contest.score(1), 0);
        contest.estimate(1, contest.openQuestion(1), 0, 5, 5, 1);
        Check.same("of an open one", contest.score(1), 0);
        contest.settle(0);
        Check.same("of one", contest.score(1), 5);
        Check.same("the smaller one is better", contest.playerByScore(0), 0);
        contest.estimate(0, contest.openQuestion(1), 0, 4, 5, 1);
        contest.settle(0);
        Check.same("smaller by 1", contest.playerByScore(0), 0);
        contest.estimate(0, contest.openQuestion(2), 0, 1, 5, 1);
        contest.settle(0);
        Check.same("of two", contest.score(0), 6);
        Check.same("greater by 1", contest.playerByScore(0), 1);
    }

    private static void bins() {
        EstimateContest contest = new EstimateContest();
        Scenes.players(contest, 5);
        for (int confidence = 1; confidence <= 9; confidence++) {
            Check.same("size, nothing settled", contest.binSize(confidence), 0);
            Check.same("hits, nothing settled", contest.binHits(confidence), 0);
        }
        for (int confidence : new int[] {1, 9}) {
            int question = contest.openQuestion(1);
            for (int player = 0; player < 5; player++) {
                contest.estimate(player, question, player, player + 1, confidence, 1);
            }
            contest.settle(confidence == 1 ? 0 : 5);
        }
        for (int confidence = 1; confidence <= 9; confidence++) {
            boolean isEnd = confidence == 1 || confidence == 9;
            Check.same("size of " + confidence, contest.binSize(confidence), isEnd ? 5 : 0);
            Check.same("hits of " + confidence, contest.binHits(confidence), isEnd ? 1 : 0);
        }
    }

    private static void bet(EstimateContest contest, int confidence, int truth) {
        contest.estimate(0, contest.openQuestion(1), 0, 0, confidence, 1);
        contest.settle(truth);
    }

    private static void calibrationErrors() {
        EstimateContest contest = new EstimateContest();
        contest.addPlayer();
        Check.same("none", contest.calibrationError(0), 0);
        bet(contest, 5, 1);
        Check.same("hits too few", contest.calibrationError(0), 5);
        bet(contest, 5, 0);
        Check.same("hits just as due", contest.calibrationError(0), 0);
        bet(contest, 5, 0);
        Check.same("hits too many", contest.calibrationError(0), 5);
        bet(contest, 1, 1);
        Check.same("a miss at 1", contest.calibrationError(0), 6);
        bet(contest, 9, 0);
        Check.same("a hit at 9", contest.calibrationError(0), 7);
        bet(contest, 9, 1);
        Check.same("and a miss at 9", contest.calibrationError(0), 14);
    }

    /** All but the last would be greater if only the score were rounded down, or if the quotient were rounded up. */
    private static void quotients() {
        Check.same("weight 3, quotient 2 2/9", settled(3, 0, 9, 1, 10).score(0), 33);
        Check.same("weight 2, quotient 2 1/2", settled(2, 0, 9, 2, 10).score(0), 22);
        Check.same("weight 3, quotient 6 2/3", settled(3, 9, 9, 7, 8).score(0), 18);
        Check.same("weight 2, quotient 14 2/7", settled(2, 50, 50, 3, 45).score(0), 28);
        Check.same("weight 3, quotient 2 6/7", settled(3, 50, 50, 3, 51).score(0), 6);
        Check.same("weight 3, quotient 4", settled(3, 50, 50, 5, 51).score(0), 12);
    }

    private static void withdrawnAndCalibrated() {
        EstimateContest contest = Scenes.made(Scenes::full);
        Check.same("the best", contest.bestCalibrated(), 4);
        contest.withdraw(4);
        Check.same("the best, who is out", contest.bestCalibrated(), 4);
        for (int player = 0; player < 4; player++) {
            contest.withdraw(player);
        }
        Check.same("all are out", contest.bestCalibrated(), 4);
        EstimateContest single = Scenes.made(Scenes::single);
        single.withdraw(0);
        single.settle(150);
        Check.fails("an only player without a settled estimate", NoSuchElementException.class,
                single::bestCalibrated);
    }

    private static void scoresOfNone() {
        EstimateContest contest = new EstimateContest();
        Scenes.players(contest, 3);
        for (int rank = 0; rank < 3; rank++) {
            Check.same("all without", contest.playerByScore(rank), rank);
        }
        contest.estimate(0, contest.openQuestion(1), 0, 1, 5, 1);
        contest.settle(0);
        Check.same("0 before 1", contest.playerByScore(0), 1);
        Check.same("1 behind 0", contest.playerByScore(2), 0);
        contest.estimate(2, contest.openQuestion(1), 0, 0, 5, 1);
        contest.settle(0);
        Check.same("0 with a hit", contest.playerByScore(0), 2);
        Check.same("0 without", contest.playerByScore(1), 1);
        Check.same("1 is still the last", contest.playerByScore(2), 0);
    }

    private static void truths(EstimateContest contest, int... due) {
        for (int back = 0; back < 5; back++) {
            int asked = back;
            String truth = back < due.length ? String.valueOf(due[back]) : "throws NoSuchElementException";
            Check.same("recentTruth " + back, Check.outcome(() -> contest.recentTruth(asked)), truth);
        }
    }

    private static void displacedTruths() {
        EstimateContest contest = new EstimateContest();
        Scenes.questions(contest, 6);
        for (int i = 0; i < 5; i++) {
            contest.settle(10 * i);
        }
        truths(contest, 40, 30, 20, 10, 0);
        contest.settle(999);
        truths(contest, 999, 40, 30, 20, 10);
        contest.undo();
        truths(contest, 40, 30, 20, 10, 0);
        contest.undo();
        truths(contest, 30, 20, 10, 0);
        View.run(contest, "settle 1;settle 2;open 1;settle 3");
        truths(contest, 3, 2, 1, 30, 20);
        contest.undo();
        truths(contest, 30, 20, 10, 0);
        Check.same("settledQuestions", contest.settledQuestions(), 4);
    }

    private static void withdrawing() {
        EstimateContest contest = Scenes.made(Scenes::full);
        contest.settle(500);
        contest.openQuestion(1);
        for (int question : new int[] {2, 3, 6, 7, 8}) {
            contest.estimate(1, question, 0, 9, 5, 10);
        }
        Check.same("coins before", contest.coins(1), 227);
        int staked = contest.stakedCoins();
        Check.same("of six questions", contest.withdraw(1), 6);
        Check.same("coins", contest.coins(1), 280);
        Check.same("staked", contest.stakedCoins(), staked - 53);
        for (int question : new int[] {2, 3, 5, 6, 7, 8}) {
            Check.same("no estimate of " + question, contest.hasEstimate(1, question), false);
        }
        Check.same("the settled ones stay", contest.settledEstimates(1), 3);
        Check.same("the others' ones stay", contest.estimateCount(3), 2);
        Check.same("of one question", contest.withdraw(4), 1);
        Check.same("of none", contest.withdraw(2), 0);
        Check.same("coins of one without", contest.coins(2), 99);
    }
}
