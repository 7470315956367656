/** Promises 1, 2, 7, 8, 9 and 10: a new object, players and withdrawing. */
final class PlayersTest {
    public static void main(String[] args) {
        newObjectIsEmpty();
        objectsAreApart();
        addPlayerCountsUp();
        addPlayerRefusesTheSixth();
        withdrawGivesStakesBack();
        withdrawKeepsTheOrderOfTheOthers();
        withdrawKeepsSettledEstimates();
        withdrawRefuses();
        queriesRefuseAbsentPlayers();
        Check.finish();
    }

    private static void newObjectIsEmpty() {
        EstimateContest contest = new EstimateContest();
        Check.same("players", contest.playerCount(), 0);
        Check.same("open", contest.openCount(), 0);
        Check.same("house", contest.houseCoins(), 0);
        Check.same("staked", contest.stakedCoins(), 0);
        Check.same("settled", contest.settledQuestions(), 0);
        Check.same("undo", contest.undoCount(), 0);
        Check.same("consistent", contest.isConsistent(), true);
        Check.same("output", View.output(contest), "");
        Check.same("bin", contest.binSize(5) + contest.binHits(5) + contest.binSizeByPlayers(5), 0);
        Check.same("buffer", contest.feed('x'), 1);
    }

    private static void objectsAreApart() {
        EstimateContest one = new EstimateContest();
        EstimateContest other = new EstimateContest();
        Scenes.busy(one);
        Check.same("the other object", View.of(other), View.of(new EstimateContest()));
    }

    private static void addPlayerCountsUp() {
        EstimateContest contest = new EstimateContest();
        for (int i = 0; i < 5; i++) {
            Check.same("playerCount", contest.playerCount(), i);
            Check.same("addPlayer", contest.addPlayer(), i);
            Check.same("coins", contest.coins(i), 100);
            Check.same("hasWithdrawn", contest.hasWithdrawn(i), false);
        }
        Check.same("playerCount", contest.playerCount(), 5);
    }

    private static void addPlayerRefusesTheSixth() {
        Check.refused("a sixth player", IllegalStateException.class, c -> Scenes.players(c, 5), c -> c.addPlayer());
        Check.refused("a sixth player, one being out", IllegalStateException.class, c -> {
            Scenes.players(c, 5);
            c.withdraw(4);
        }, c -> c.addPlayer());
    }

    private static void withdrawGivesStakesBack() {
        EstimateContest contest = new EstimateContest();
        Scenes.players(contest, 2);
        Scenes.questions(contest, 3);
        contest.estimate(0, 0, 1, 2, 3, 20);
        contest.estimate(1, 0, 1, 2, 3, 10);
        contest.estimate(0, 2, 1, 2, 3, 5);
        Check.same("coins before", contest.coins(0), 75);
        Check.same("withdraw", contest.withdraw(0), 2);
        Check.same("coins after", contest.coins(0), 100);
        Check.same("the other's coins", contest.coins(1), 90);
        Check.same("hasWithdrawn", contest.hasWithdrawn(0), true);
        Check.same("the other is in", contest.hasWithdrawn(1), false);
        Check.same("playerCount", contest.playerCount(), 2);
        Check.same("staked", contest.stakedCoins(), 10);
        Check.same("estimates", contest.estimateCount(0), 1);
        Check.same("hasEstimate", contest.hasEstimate(0, 2), false);
        Check.same("withdraw again", Check.outcome(() -> contest.withdraw(0)), "throws IllegalStateException");
        Check.same("withdraw the other", contest.withdraw(1), 1);
        Check.same("house", contest.houseCoins(), 0);
    }

    private static void withdrawKeepsTheOrderOfTheOthers() {
        EstimateContest contest = new EstimateContest();
        Scenes.players(contest, 5);
        contest.openQuestion(1);
        int[] order = {3, 1, 4, 0, 2};
        for (int player : order) {
            contest.estimate(player, 0, player * 10, player * 10 + 5, 9, player + 1);
        }
        contest.withdraw(1);
        contest.withdraw(3);
        contest.writeQuestion(0);
        Check.same("the others", View.output(contest), "q0w1 4:40-45c9 0:0-5c9 2:20-25c9");
        contest.withdraw(2);
        contest.writeQuestion(0);
        Check.same("the last two", View.output(contest), "q0w1 4:40-45c9 0:0-5c9");
        contest.undo();
        contest.undo();
        contest.writeQuestion(0);
        Check.same("undone", View.output(contest), "q0w1 3:30-35c9 4:40-45c9 0:0-5c9 2:20-25c9");
    }

    private static void withdrawKeepsSettledEstimates() {
        EstimateContest contest = new EstimateContest();
        contest.addPlayer();
        contest.openQuestion(1);
        contest.estimate(0, 0, 1, 2, 3, 20);
        contest.settle(5);
        Check.same("withdraw", contest.withdraw(0), 0);
        Check.same("coins", contest.coins(0), 80);
        Check.same("settled", contest.settledEstimates(0), 1);
        Check.same("score", contest.score(0), 1 + 60 / 7);
    }

    private static void withdrawRefuses() {
        for (int player : Scenes.ABSENT_PLAYERS) {
            Check.refused("withdraw " + player, IndexOutOfBoundsException.class, Scenes::busy, c -> c.withdraw(player));
        }
        Check.refused("withdraw of a new object", IndexOutOfBoundsException.class, Scenes::empty, c -> c.withdraw(0));
        Check.refused("withdraw twice", IllegalStateException.class, Scenes::busy, c -> c.withdraw(2));
    }

    private static void queriesRefuseAbsentPlayers() {
        for (int player : Scenes.ABSENT_PLAYERS) {
            Check.refused("coins", IndexOutOfBoundsException.class, Scenes::busy, c -> c.coins(player));
            Check.refused("hasWithdrawn", IndexOutOfBoundsException.class, Scenes::busy, c -> c.hasWithdrawn(player));
        }
        Check.refused("coins", IndexOutOfBoundsException.class, Scenes::empty, c -> c.coins(0));
        Check.refused("coins of an undone player", IndexOutOfBoundsException.class, c -> {
            c.addPlayer();
            c.undo();
        }, c -> c.coins(0));
    }
}
