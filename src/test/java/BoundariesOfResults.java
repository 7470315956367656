import java.util.NoSuchElementException;

/** A test for each sentence of the promises 8 to 11 and 29 to 42: players, true values, scores and bins. */
final class BoundariesOfResults {
    private static final String PLAYER = "`player`: index of a player";
    private static final String NO_PLAYER = "Throws `IndexOutOfBoundsException` if there is no such player";

    private static final String EMPTY = "throws ArithmeticException";

    private BoundariesOfResults() {
    }

    static void run() {
        players();
        house();
        truths();
        ofPlayers();
        means();
        best();
        ranks();
        bins();
        shares();
        consistency();
    }

    private static void ofPlayer(int promise, Absent.CallOf call, Object... due) {
        Sentence.promise(promise, PLAYER, () -> Absent.allPlayers(call, due));
        Sentence.promise(promise, NO_PLAYER, () -> Absent.players(call));
    }

    private static void players() {
        Sentence.promise(8, "Returns the number of players, withdrawn ones included",
                BoundariesOfResults::withdrawnOnesCount);
        Sentence.promise(8, "Returns the number, 0 to 5", BoundariesOfResults::playerCounts);
        Sentence.promise(9, "Returns the coins of a player", BoundariesOfResults::coins);
        ofPlayer(9, EstimateContest::coins, 87, 271, 92, 78, 79, 90);
        Sentence.promise(10, "Returns whether a player has withdrawn", BoundariesOfResults::whoHasWithdrawn);
        ofPlayer(10, (c, player) -> {
            Check.same("not yet", c.hasWithdrawn(player), false);
            c.withdraw(player);
            return c.hasWithdrawn(player);
        }, true, true, true, true, true, true);
    }

    private static void withdrawnOnesCount() {
        EstimateContest contest = new EstimateContest();
        Scenes.players(contest, 5);
        for (int player = 0; player < 5; player++) {
            contest.withdraw(player);
            Check.same("so many are out: " + (player + 1), contest.playerCount(), 5);
        }
    }

    private static void playerCounts() {
        EstimateContest contest = new EstimateContest();
        for (int count = 0; count < 5; count++) {
            Check.same("playerCount", contest.playerCount(), count);
            contest.addPlayer();
        }
        Check.same("playerCount", contest.playerCount(), 5);
        Check.fails("a sixth", IllegalStateException.class, contest::addPlayer);
        Check.same("playerCount", contest.playerCount(), 5);
        for (int count = 4; count >= 0; count--) {
            contest.undo();
            Check.same("playerCount", contest.playerCount(), count);
        }
    }

    private static void coins() {
        EstimateContest contest = new EstimateContest();
        contest.addPlayer();
        for (int left = 80; left >= 0; left -= 20) {
            contest.estimate(0, contest.openQuestion(1), 0, 0, 1, 20);
            contest.settle(1);
            Check.same("coins", contest.coins(0), left);
        }
        Check.same("none are left", contest.coins(0), 0);
        contest.undo();
        contest.settle(0);
        Check.same("the most for an estimate", contest.coins(0), 200);
    }

    private static void whoHasWithdrawn() {
        EstimateContest contest = Scenes.made(Scenes::full);
        for (int player = 4; player >= 0; player--) {
            contest.withdraw(player);
            for (int other = 0; other < 5; other++) {
                Check.same("hasWithdrawn", contest.hasWithdrawn(other), other >= player);
            }
        }
        contest.undo();
        Check.same("not any more", contest.hasWithdrawn(0), false);
    }

    private static void house() {
        Sentence.promise(11, "Returns the coins of the house", BoundariesOfResults::houseOfNone);
        Sentence.promise(11, "Returns the number of coins, which may be negative", BoundariesOfResults::houseOwes);
    }

    private static void houseOfNone() {
        EstimateContest contest = new EstimateContest();
        Check.same("nothing there", contest.houseCoins(), 0);
        contest.openQuestion(1);
        contest.settle(0);
        Check.same("nobody bet", contest.houseCoins(), 0);
        Check.same("gains and losses", Scenes.made(Scenes::full).houseCoins(), -165);
    }

    private static void houseOwes() {
        EstimateContest contest = new EstimateContest();
        contest.addPlayer();
        int[] stakes = {2, 1, 1, 1};
        int[] truths = {1, 0, 0, 0};
        int[] due = {2, 1, 0, -1};
        for (int i = 0; i < due.length; i++) {
            contest.estimate(0, contest.openQuestion(1), 0, 0, 5, stakes[i]);
            contest.settle(truths[i]);
            Check.same("house", contest.houseCoins(), due[i]);
        }
        contest.undo();
        Check.same("0 again", contest.houseCoins(), 0);
    }

    private static void truths() {
        Sentence.promise(29, "Returns the number of questions that were settled so far",
                BoundariesOfResults::settledCounts);
        Sentence.promise(30, "Returns the true value of one of the 5 questions that were settled last",
                BoundariesOfResults::truthsMoveOn);
        Sentence.promise(30, "`back`: how many questions were settled after it, 0 to 4",
                BoundariesOfResults::recentTruthTakes);
        Sentence.promise(30, "Throws `NoSuchElementException` if there is no such question",
                BoundariesOfResults::recentTruthRefuses);
    }

    private static void settleAll(EstimateContest contest, int count) {
        for (int i = 1; i <= count; i++) {
            contest.openQuestion(1);
            contest.settle(100 + i);
        }
    }

    private static void settledCounts() {
        EstimateContest contest = new EstimateContest();
        Check.same("none", contest.settledQuestions(), 0);
        for (int count = 1; count <= 12; count++) {
            settleAll(contest, 1);
            Check.same("settledQuestions", contest.settledQuestions(), count);
        }
        Scenes.questions(contest, 6);
        Check.same("open ones do not count", contest.settledQuestions(), 12);
        Check.same("of a text", View.run(contest, "settle 1;settle 2"), 2);
        Check.same("settledQuestions", contest.settledQuestions(), 14);
        contest.undo();
        Check.same("undone", contest.settledQuestions(), 12);
    }

    /** Each true value moves on by a place with each settled question, until it is forgotten. */
    private static void truthsMoveOn() {
        EstimateContest contest = new EstimateContest();
        for (int settled = 1; settled <= 12; settled++) {
            contest.openQuestion(1);
            contest.settle(settled);
            for (int back = 0; back < 5; back++) {
                int asked = back;
                String due = back < settled ? String.valueOf(settled - back) : "throws NoSuchElementException";
                Check.same("recentTruth " + back, Check.outcome(() -> contest.recentTruth(asked)), due);
            }
        }
    }

    private static void recentTruthTakes() {
        EstimateContest contest = new EstimateContest();
        settleAll(contest, 5);
        Check.same("the last of five", contest.recentTruth(0), 105);
        Check.same("the first of five", contest.recentTruth(4), 101);
        settleAll(contest, 6);
        Check.same("the last of eleven", contest.recentTruth(0), 106);
        Check.same("the fifth from the end", contest.recentTruth(4), 102);
        Check.fails("the sixth from the end", NoSuchElementException.class, () -> contest.recentTruth(5));
        Check.fails("behind the last", NoSuchElementException.class, () -> contest.recentTruth(-1));
    }

    private static void recentTruthRefuses() {
        Class<NoSuchElementException> due = NoSuchElementException.class;
        for (int count = 0; count <= 6; count++) {
            int settled = count;
            Check.refused("-1 of " + count, due, c -> settleAll(c, settled), c -> c.recentTruth(-1));
            Check.refused(count + " of " + count, due, c -> settleAll(c, settled), c -> c.recentTruth(settled));
            Check.refused("5 of " + count, due, c -> settleAll(c, settled), c -> c.recentTruth(5));
        }
        for (int back : new int[] {2, Integer.MIN_VALUE, Integer.MAX_VALUE}) {
            Check.refused("recentTruth " + back, due, Scenes::full, c -> c.recentTruth(back));
        }
        Check.refused("of an undone settlement", due, c -> {
            Scenes.single(c);
            c.settle(5);
            c.undo();
        }, c -> c.recentTruth(0));
    }

    private static void ofPlayers() {
        Sentence.promise(31, "Returns the number of settled estimates of a player", BoundariesOfResults::settledOnes);
        ofPlayer(31, EstimateContest::settledEstimates, 1, 2, 1, 2, 1, 0);
        Sentence.promise(32, "Returns how many settled estimates of a player hit", BoundariesOfResults::hits);
        ofPlayer(32, EstimateContest::hits, 1, 1, 0, 1, 1, 0);
        Sentence.promise(33, "Returns the score of a player", BoundariesOfResults::scores);
        ofPlayer(33, EstimateContest::score, 0, 11, 13, 140, 999, 0);
        Sentence.promise(35, "Returns the calibration error of a player", BoundariesOfResults::errors);
        ofPlayer(35, EstimateContest::calibrationError, 9, 12, 5, 12, 1, 0);
    }

    private static void bet(EstimateContest contest, int player, int width, int confidence, int truth) {
        contest.estimate(player, contest.openQuestion(1), 0, width, confidence, 1);
        contest.settle(truth);
    }

    private static void settledOnes() {
        EstimateContest contest = Scenes.made(Scenes::single);
        Check.same("an open one", contest.settledEstimates(0), 0);
        contest.settle(0);
        Check.same("a settled one", contest.settledEstimates(0), 1);
        contest.openQuestion(1);
        contest.settle(0);
        Check.same("a question without one", contest.settledEstimates(0), 1);
        contest.estimate(0, contest.openQuestion(1), 0, 0, 1, 1);
        contest.withdraw(0);
        contest.settle(0);
        Check.same("a removed one", contest.settledEstimates(0), 1);
    }

    private static void hits() {
        EstimateContest contest = new EstimateContest();
        contest.addPlayer();
        int[] truths = {0, 9, 10, 999, 5};
        int[] due = {1, 2, 2, 2, 3};
        for (int i = 0; i < due.length; i++) {
            bet(contest, 0, 9, 5, truths[i]);
            Check.same("hits", contest.hits(0), due[i]);
        }
        contest.undo();
        Check.same("undone", contest.hits(0), 2);
    }

    private static void scores() {
        EstimateContest contest = new EstimateContest();
        contest.addPlayer();
        bet(contest, 0, 0, 9, 0);
        Check.same("the least", contest.score(0), 0);
        for (int i = 1; i <= 5; i++) {
            contest.estimate(0, contest.openQuestion(3), 0, 0, 9, 1);
            contest.settle(999);
            Check.same("the greatest for an estimate", contest.score(0), 59940 * i);
        }
    }

    private static void errors() {
        for (int confidence = 1; confidence <= 9; confidence++) {
            EstimateContest contest = new EstimateContest();
            contest.addPlayer();
            int least = confidence;
            for (int settled = 1; settled <= 10; settled++) {
                bet(contest, 0, 0, confidence, settled <= confidence ? 0 : 1);
                int hits = Math.min(settled, confidence);
                int due = 10 * hits - confidence * settled;
                Check.same("error at " + confidence, contest.calibrationError(0), due);
                least = Math.min(least, contest.calibrationError(0));
            }
            Check.same("as sure as right", least, 0);
            bet(contest, 0, 0, confidence, 1);
            Check.same("too sure", contest.calibrationError(0), confidence);
        }
    }

    private static void means() {
        Sentence.promise(34, "Returns the mean score of the settled estimates of a player: the score converted to double,"
                + " divided by their number converted to double", BoundariesOfResults::meanScores);
        ofPlayer(34, EstimateContest::meanScore, 0.0, 5.5, 13.0, 70.0, 999.0, EMPTY);
        Sentence.promise(34, "Throws `ArithmeticException` if the player has no settled estimates",
                BoundariesOfResults::meanScoreRefuses);
    }

    private static void meanScores() {
        EstimateContest contest = new EstimateContest();
        contest.addPlayer();
        bet(contest, 0, 1, 5, 0);
        Check.same("of one", contest.meanScore(0), 1.0);
        bet(contest, 0, 0, 5, 0);
        Check.same("of two", contest.meanScore(0), 0.5);
        bet(contest, 0, 0, 5, 0);
        Check.same("of three", contest.meanScore(0), 1.0 / 3.0);
    }

    private static void meanScoreRefuses() {
        Class<ArithmeticException> due = ArithmeticException.class;
        Check.refused("no estimate", due, c -> c.addPlayer(), c -> c.meanScore(0));
        Check.refused("an open one", due, Scenes::single, c -> c.meanScore(0));
        Check.refused("an undone settlement", due, c -> {
            Scenes.single(c);
            c.settle(0);
            c.undo();
        }, c -> c.meanScore(0));
        Check.refused("a removed one", due, c -> {
            Scenes.single(c);
            c.withdraw(0);
            c.settle(0);
        }, c -> c.meanScore(0));
        Check.refused("others have some", due, c -> {
            Scenes.single(c);
            c.addPlayer();
            c.settle(0);
        }, c -> c.meanScore(1));
    }

    private static void best() {
        Sentence.promise(36, "Returns the player with the least calibration error among those with at least one settled"
                + " estimate; of several such players, the one with the least index", BoundariesOfResults::bestOfAll);
        Sentence.promise(36, "Throws `NoSuchElementException` if there is no such player",
                BoundariesOfResults::bestRefuses);
    }

    private static void bestOfAll() {
        EstimateContest contest = new EstimateContest();
        Scenes.players(contest, 5);
        bet(contest, 4, 0, 1, 0);
        Check.same("the only one, the last", contest.bestCalibrated(), 4);
        bet(contest, 2, 0, 1, 0);
        Check.same("of two equal ones", contest.bestCalibrated(), 2);
        bet(contest, 3, 0, 2, 0);
        Check.same("less by 1", contest.bestCalibrated(), 3);
        bet(contest, 0, 0, 2, 0);
        Check.same("equal, the first", contest.bestCalibrated(), 0);
        bet(contest, 1, 0, 2, 0);
        Check.same("equal, the second", contest.bestCalibrated(), 0);
        bet(contest, 0, 0, 1, 1);
        Check.same("greater by 1", contest.bestCalibrated(), 1);
    }

    private static void bestRefuses() {
        Class<NoSuchElementException> due = NoSuchElementException.class;
        Check.refused("nobody there", due, Scenes::empty, c -> c.bestCalibrated());
        Check.refused("five without", due, c -> Scenes.players(c, 5), c -> c.bestCalibrated());
        Check.refused("an open estimate", due, Scenes::single, c -> c.bestCalibrated());
        Check.refused("a removed estimate", due, c -> {
            Scenes.single(c);
            c.withdraw(0);
            c.settle(150);
        }, c -> c.bestCalibrated());
        Check.refused("an undone settlement", due, c -> {
            Scenes.single(c);
            c.settle(150);
            c.undo();
        }, c -> c.bestCalibrated());
    }

    private static void ranks() {
        Sentence.promise(37, "Returns the player at a rank when all players are sorted by score in ascending order, then"
                + " by hits in descending order, then by index in ascending order", BoundariesOfResults::ties);
        Sentence.promise(37, "`rank`: the rank, counted from 0", BoundariesOfResults::playerByScoreTakes);
        Sentence.promise(37, "Throws `NoSuchElementException` if there is no such rank",
                BoundariesOfResults::playerByScoreRefuses);
    }

    private static void ranksAre(EstimateContest contest, int... due) {
        for (int rank = 0; rank < due.length; rank++) {
            Check.same("playerByScore " + rank, contest.playerByScore(rank), due[rank]);
        }
    }

    private static void ties() {
        EstimateContest contest = new EstimateContest();
        Scenes.players(contest, 5);
        ranksAre(contest, 0, 1, 2, 3, 4);
        bet(contest, 4, 0, 5, 0);
        ranksAre(contest, 4, 0, 1, 2, 3);
        bet(contest, 2, 0, 5, 0);
        ranksAre(contest, 2, 4, 0, 1, 3);
        bet(contest, 4, 0, 5, 0);
        ranksAre(contest, 4, 2, 0, 1, 3);
        bet(contest, 4, 1, 5, 0);
        ranksAre(contest, 2, 0, 1, 3, 4);
        bet(contest, 0, 1, 5, 0);
        ranksAre(contest, 2, 1, 3, 4, 0);
        bet(contest, 1, 1, 5, 0);
        ranksAre(contest, 2, 3, 4, 0, 1);
    }

    private static void playerByScoreTakes() {
        EstimateContest one = Scenes.made(Scenes::single);
        Check.same("the only one", one.playerByScore(0), 0);
        Check.fails("rank 1 of one", NoSuchElementException.class, () -> one.playerByScore(1));
        EstimateContest contest = Scenes.made(Scenes::full);
        ranksAre(contest, 0, 1, 2, 3, 4);
        contest.settle(999);
        ranksAre(contest, 1, 2, 3, 0, 4);
        Check.fails("rank -1 of five", NoSuchElementException.class, () -> contest.playerByScore(-1));
        Check.fails("rank 5 of five", NoSuchElementException.class, () -> contest.playerByScore(5));
    }

    private static void playerByScoreRefuses() {
        Class<NoSuchElementException> due = NoSuchElementException.class;
        for (int rank : Absent.PLAYERS) {
            Check.refused("rank " + rank + " of five", due, Scenes::full, c -> c.playerByScore(rank));
        }
        Check.refused("rank 0 of none", due, Scenes::empty, c -> c.playerByScore(0));
        Check.refused("rank 1 of one", due, Scenes::single, c -> c.playerByScore(1));
        Check.refused("the rank of an undone player", due, c -> {
            Scenes.players(c, 2);
            c.undo();
        }, c -> c.playerByScore(1));
    }

    private static void bins() {
        Sentence.promise(38, "Returns the number of settled estimates of a confidence, counted as they are settled",
                () -> binsCount(EstimateContest::binSize, 1));
        ofBin(38, EstimateContest::binSize, 2, 0, 1, 0, 1, 0, 1, 0, 2);
        Sentence.promise(39, "Returns the same number as binSize, but adds up the numbers of all players",
                () -> binsCount(EstimateContest::binSizeByPlayers, 1));
        ofBin(39, EstimateContest::binSizeByPlayers, 2, 0, 1, 0, 1, 0, 1, 0, 2);
        Sentence.promise(40, "Returns how many settled estimates of a confidence hit",
                () -> binsCount(EstimateContest::binHits, 0));
        ofBin(40, EstimateContest::binHits, 2, 0, 0, 0, 0, 0, 1, 0, 1);
        ofBin(41, EstimateContest::binShare, 1f, EMPTY, 0f, EMPTY, 0f, EMPTY, 1f, EMPTY, 0.5f);
    }

    private static void ofBin(int promise, Absent.CallOf call, Object... due) {
        Sentence.promise(promise, "`confidence`: the confidence, 1 to 9", () -> {
            for (int confidence = 1; confidence <= 9; confidence++) {
                int asked = confidence;
                String got = Check.outcome(() -> call.at(Scenes.made(Scenes::full), asked));
                Check.same("confidence " + confidence, got, due[confidence - 1].toString());
            }
            for (int confidence : new int[] {0, 10}) {
                Check.fails("confidence " + confidence, IllegalArgumentException.class,
                        () -> call.at(Scenes.made(Scenes::full), confidence));
            }
        });
        Sentence.promise(promise, "Throws `IllegalArgumentException` if the confidence is out of range",
                () -> binRefuses(call));
    }

    private static void binRefuses(Absent.CallOf call) {
        for (int confidence : new int[] {0, 10, -1, Integer.MIN_VALUE, Integer.MAX_VALUE}) {
            Class<IllegalArgumentException> due = IllegalArgumentException.class;
            Check.refused("confidence " + confidence, due, Scenes::full, c -> call.at(c, confidence));
            Check.refused("of nothing, " + confidence, due, Scenes::empty, c -> call.at(c, confidence));
        }
    }

    /** Of the first and the last player and confidence; a miss counts so much. */
    private static void binsCount(Absent.CallOf call, int miss) {
        for (int confidence : new int[] {1, 9}) {
            EstimateContest contest = new EstimateContest();
            Scenes.players(contest, 5);
            Check.same("none", call.at(contest, confidence), 0);
            int question = contest.openQuestion(1);
            contest.estimate(0, question, 0, 0, confidence, 1);
            contest.estimate(4, question, 0, 0, confidence, 1);
            contest.estimate(3, question, 0, 1, confidence, 1);
            contest.estimate(2, question, 0, 1, 10 - confidence, 1);
            Check.same("open ones", call.at(contest, confidence), 0);
            contest.withdraw(3);
            contest.settle(0);
            Check.same("settled ones", call.at(contest, confidence), 2);
            contest.withdraw(4);
            Check.same("one is out", call.at(contest, confidence), 2);
            bet(contest, 0, 0, confidence, 1);
            Check.same("a miss", call.at(contest, confidence), 2 + miss);
            contest.undo();
            Check.same("undone", call.at(contest, confidence), 2);
        }
    }

    private static void shares() {
        Sentence.promise(41, "Returns the share of hits among the settled estimates of a confidence, both numbers"
                + " converted to float", BoundariesOfResults::binShares);
        Sentence.promise(41, "Throws `ArithmeticException` if there are no such estimates",
                BoundariesOfResults::binShareRefuses);
    }

    private static void binShares() {
        for (int confidence : new int[] {1, 9}) {
            EstimateContest contest = new EstimateContest();
            contest.addPlayer();
            float[] due = {0f, 0f, 1f / 3f, 1f / 2f, 3f / 5f, 2f / 3f, 5f / 7f};
            for (int i = 0; i < due.length; i++) {
                bet(contest, 0, 0, confidence, i < 2 ? 1 : 0);
                Check.same("binShare", contest.binShare(confidence), due[i]);
            }
        }
        EstimateContest right = new EstimateContest();
        right.addPlayer();
        bet(right, 0, 0, 5, 0);
        Check.same("all hit", right.binShare(5), 1f);
    }

    private static void binShareRefuses() {
        Class<ArithmeticException> due = ArithmeticException.class;
        for (int confidence = 1; confidence <= 9; confidence++) {
            int level = confidence;
            Check.refused("nothing there, " + level, due, Scenes::empty, c -> c.binShare(level));
            Check.refused("an open one, " + level, due, c -> {
                Scenes.questionsAlone(c);
                c.estimate(0, 0, 0, 0, level, 1);
            }, c -> c.binShare(level));
            Check.refused("an undone one, " + level, due, c -> {
                c.addPlayer();
                bet(c, 0, 0, level, 0);
                c.undo();
            }, c -> c.binShare(level));
            Check.refused("of all others, " + level, due, c -> {
                c.addPlayer();
                for (int other = 1; other <= 9; other++) {
                    bet(c, 0, 0, other == level ? other % 9 + 1 : other, 0);
                }
            }, c -> c.binShare(level));
        }
    }

    private static void consistency() {
        Sentence.promise(42, "Checks the state by a second method: the coins of all players and of the house and all"
                + " stakes are together 100 for each player, both ways to find the most covered value agree for all open"
                + " questions with estimates, and both ways to count bins agree", BoundariesOfResults::consistent);
    }

    /** No run of calls can make it false, so the tests can only hold it to true. */
    private static void consistent() {
        EstimateContest contest = new EstimateContest();
        Check.same("nothing there", contest.isConsistent(), true);
        contest.openQuestion(1);
        Check.same("a question alone", contest.isConsistent(), true);
        contest.settle(999);
        Check.same("settled", contest.isConsistent(), true);
        EstimateContest full = Scenes.made(Scenes::full);
        Check.same("all places taken", full.isConsistent(), true);
        for (int player = 0; player < 5; player++) {
            full.withdraw(player);
            Check.same("so many are out: " + (player + 1), full.isConsistent(), true);
        }
        EstimateContest settled = Scenes.made(Scenes::full);
        for (int truth : new int[] {0, 999, 500, 7, 40, 998}) {
            settled.settle(truth);
            Check.same("settled", settled.isConsistent(), true);
        }
        settled.undo();
        Check.same("undone", settled.isConsistent(), true);
        settled.restore();
        Check.same("restored", settled.isConsistent(), true);
    }
}
