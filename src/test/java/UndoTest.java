import java.util.ArrayList;
import java.util.List;
import java.util.function.Consumer;

/** Promises 49 to 52: undo, save and restore. */
final class UndoTest {
    public static void main(String[] args) {
        everyRecordedCallIsUndone();
        otherCallsAreNotRecorded();
        onlyEightAreKept();
        undoAndGoOn();
        undoneRowsAreFresh();
        restoredRowsAreFresh();
        failedRowsAreFresh();
        undoRefuses();
        saveAndRestore();
        saveIsReplaced();
        saveOutlivesUndo();
        restoreForgetsTheHistory();
        restoreKeepsWhatIsNoState();
        restoreRefuses();
        Check.finish();
    }

    private static List<Consumer<EstimateContest>> recordedCalls() {
        List<Consumer<EstimateContest>> calls = new ArrayList<>();
        calls.add(c -> c.addPlayer());
        calls.add(c -> c.openQuestion(3));
        calls.add(c -> c.estimate(1, 2, 0, 999, 9, 20));
        calls.add(c -> c.settle(10));
        calls.add(c -> c.settle(999));
        calls.add(c -> c.postpone());
        calls.add(c -> c.withdraw(0));
        calls.add(c -> {
            Check.outcome(c::runCommands);
            View.run(c, "player;settle 1;open 1;out 1");
        });
        return calls;
    }

    private static void everyRecordedCallIsUndone() {
        for (Consumer<EstimateContest> call : recordedCalls()) {
            EstimateContest contest = new EstimateContest();
            Scenes.busy(contest);
            contest.save();
            contest.restore();
            String before = View.of(contest);
            call.accept(contest);
            int recorded = contest.undoCount();
            Check.same("undo", contest.undo(), recorded - 1);
            while (contest.undoCount() > 0) {
                contest.undo();
            }
            Check.same("undone", View.of(contest), before);
        }
        EstimateContest contest = new EstimateContest();
        contest.openQuestion(1);
        contest.postpone();
        Check.same("even if nothing changes", contest.undoCount(), 2);
    }

    private static void otherCallsAreNotRecorded() {
        EstimateContest contest = new EstimateContest();
        Scenes.players(contest, 2);
        contest.openQuestion(1);
        contest.feed('x');
        contest.writeQuestion(0);
        contest.save();
        contest.isConsistent();
        contest.mostCoveredBySweep(estimated(contest));
        Check.same("undoCount", contest.undoCount(), 4);
        contest.undo();
        Check.same("undoCount", contest.undoCount(), 3);
        Check.outcome(() -> contest.openQuestion(4));
        Check.outcome(contest::runCommands);
        Check.outcome(() -> View.run(contest, "open 4"));
        Check.same("failed calls", contest.undoCount(), 3);
    }

    private static int estimated(EstimateContest contest) {
        contest.estimate(0, 0, 1, 2, 3, 4);
        return 0;
    }

    private static void onlyEightAreKept() {
        EstimateContest contest = new EstimateContest();
        for (int i = 0; i < 20; i++) {
            Check.same("undoCount", contest.undoCount(), Math.min(2 * i, 8));
            contest.openQuestion(1);
            contest.settle(i);
        }
        for (int left = 7; left >= 0; left--) {
            Check.same("undo", contest.undo(), left);
        }
        Check.same("settled", contest.settledQuestions(), 16);
        Check.same("recentTruth", contest.recentTruth(0), 15);
        Check.same("recentTruth", contest.recentTruth(4), 11);
        Check.fails("undo", IllegalStateException.class, contest::undo);
        Check.same("the number is free again", contest.openQuestion(1), 16);
    }

    private static void undoAndGoOn() {
        EstimateContest contest = new EstimateContest();
        Scenes.players(contest, 5);
        for (int round = 0; round < 30; round++) {
            contest.openQuestion(round % 3 + 1);
            contest.estimate(round % 5, round, 0, round, 5, 1);
            contest.settle(500);
            contest.undo();
            Check.same("open again", contest.stakedCoins(), 1);
            contest.undo();
            contest.estimate((round + 1) % 5, round, 0, round, 5, 1);
            contest.settle(0);
            Check.same("undoCount", contest.undoCount(), 8);
            Check.same("consistent", contest.isConsistent(), true);
        }
        Check.same("hits", contest.hits(0), 6);
        Check.same("settled", contest.settledEstimates(0), 6);
    }

    private static void undoneRowsAreFresh() {
        EstimateContest contest = new EstimateContest();
        contest.addPlayer();
        contest.openQuestion(3);
        contest.estimate(0, 0, 5, 6, 7, 8);
        contest.settle(9);
        contest.withdraw(0);
        for (int i = 0; i < 5; i++) {
            contest.undo();
        }
        Check.same("empty again", View.of(contest), View.of(new EstimateContest()));
        asNewFromHere(contest);
    }

    private static void asNewFromHere(EstimateContest contest) {
        EstimateContest fresh = new EstimateContest();
        for (EstimateContest one : new EstimateContest[] {contest, fresh}) {
            one.addPlayer();
            one.openQuestion(1);
        }
        Check.same("as new", View.of(contest), View.of(fresh));
    }

    /** Spoils the rows of a player and of a question, which the state before does not hold. */
    private static void spoil(EstimateContest contest) {
        contest.addPlayer();
        contest.openQuestion(3);
        contest.estimate(0, 0, 5, 6, 7, 8);
        contest.settle(5);
        contest.openQuestion(3);
        contest.estimate(0, 1, 5, 6, 7, 8);
        contest.settle(9);
        contest.openQuestion(2);
        contest.withdraw(0);
    }

    private static void restoredRowsAreFresh() {
        EstimateContest contest = new EstimateContest();
        contest.save();
        spoil(contest);
        contest.restore();
        Check.fails("bestCalibrated", java.util.NoSuchElementException.class, contest::bestCalibrated);
        Check.same("empty again", View.of(contest), View.of(new EstimateContest()));
        asNewFromHere(contest);
    }

    private static void failedRowsAreFresh() {
        EstimateContest contest = new EstimateContest();
        Check.outcome(() -> View.run(contest, "player;open 1;bet 0 0 0-9 9 20;settle 10;out 0;out 0"));
        EstimateContest fresh = new EstimateContest();
        Check.outcome(() -> View.run(fresh, "player;player;player;player;player;player"));
        Check.same("empty again", View.of(contest), View.of(fresh));
        contest.addPlayer();
        fresh.addPlayer();
        Check.same("as new", View.of(contest), View.of(fresh));
    }

    private static void undoRefuses() {
        Check.refused("undo", IllegalStateException.class, Scenes::empty, c -> c.undo());
        Check.refused("undo", IllegalStateException.class, c -> {
            Scenes.busy(c);
            c.restore();
        }, c -> c.undo());
    }

    private static void saveAndRestore() {
        EstimateContest contest = new EstimateContest();
        Scenes.busy(contest);
        Check.same("save", contest.save(), 3);
        String before = state(contest);
        contest.settle(30);
        contest.withdraw(1);
        contest.addPlayer();
        contest.openQuestion(3);
        contest.postpone();
        Check.same("restore", contest.restore(), 3);
        Check.same("restored", state(contest), before);
        Check.same("the next number", contest.openQuestion(1), 4);
        restoreAgain();
    }

    private static void restoreAgain() {
        EstimateContest contest = new EstimateContest();
        Scenes.busy(contest);
        contest.save();
        String before = state(contest);
        contest.restore();
        contest.settle(1);
        contest.settle(2);
        contest.restore();
        contest.estimate(0, 3, 1, 1, 1, 1);
        Check.same("restore again", contest.restore(), 3);
        Check.same("the saved state is apart", state(contest), before);
    }

    private static String state(EstimateContest contest) {
        return View.of(contest).replaceAll(" undo \\d+", "");
    }

    private static void saveIsReplaced() {
        EstimateContest contest = new EstimateContest();
        Check.same("save", contest.save(), 0);
        Scenes.players(contest, 2);
        Scenes.questions(contest, 2);
        Check.same("save again", contest.save(), 2);
        contest.addPlayer();
        Check.same("restore", contest.restore(), 2);
        Check.same("players", contest.playerCount(), 2);
    }

    private static void saveOutlivesUndo() {
        EstimateContest contest = new EstimateContest();
        contest.addPlayer();
        contest.save();
        contest.undo();
        Check.same("undone", contest.playerCount(), 0);
        Check.same("restore", contest.restore(), 0);
        Check.same("restored", contest.playerCount(), 1);
    }

    private static void restoreForgetsTheHistory() {
        EstimateContest contest = new EstimateContest();
        Scenes.questions(contest, 5);
        contest.save();
        Check.same("save keeps the history", contest.undoCount(), 5);
        contest.restore();
        Check.same("undoCount", contest.undoCount(), 0);
        Check.fails("undo", IllegalStateException.class, contest::undo);
        contest.addPlayer();
        Check.same("undoCount", contest.undoCount(), 1);
        Check.same("undo", contest.undo(), 0);
        Check.same("open", contest.openCount(), 5);
    }

    private static void restoreKeepsWhatIsNoState() {
        EstimateContest contest = new EstimateContest();
        contest.openQuestion(2);
        contest.save();
        contest.feed('l');
        contest.writeQuestion(0);
        contest.openQuestion(1);
        contest.undo();
        Check.same("the buffer stays", contest.feed('a'), 2);
        contest.restore();
        Check.same("the buffer stays", contest.feed('t'), 3);
        Check.same("the output stays", View.output(contest), "q0w2");
        Check.same("the text goes on", View.run(contest, "er"), 1);
    }

    private static void restoreRefuses() {
        Check.refused("restore", IllegalStateException.class, Scenes::empty, c -> c.restore());
        Check.refused("restore", IllegalStateException.class, c -> Scenes.players(c, 3), c -> c.restore());
    }
}
