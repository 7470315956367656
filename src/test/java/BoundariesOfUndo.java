import java.util.ArrayList;
import java.util.List;
import java.util.NoSuchElementException;
import java.util.function.Consumer;

/** A test for each sentence of the terms about undo, and of the promises 49 to 52: undo, save and restore. */
final class BoundariesOfUndo {
    private BoundariesOfUndo() {
    }

    static void run() {
        Sentence.term("Undo", "The methods addPlayer, openQuestion, estimate, settle, postpone, withdraw and runCommands"
                + " are recorded when they return normally, even if nothing changes", BoundariesOfUndo::recorded);
        Sentence.term("Undo", "At most the 8 latest calls can be undone", BoundariesOfUndo::eightCalls);
        Sentence.term("Undo", "The input buffer, the output, the error position and the failed command are not part of"
                + " the undone or saved state; everything else is, including the number of the next question",
                BoundariesOfUndo::partsOfTheState);
        undoCount();
        undo();
        save();
        restore();
    }

    /** Two players and a question with an estimate of the first one, and no call to undo. */
    private static EstimateContest unrecorded() {
        EstimateContest contest = Scenes.made(Scenes::single);
        contest.addPlayer();
        contest.save();
        contest.restore();
        return contest;
    }

    private static void recorded() {
        List<Consumer<EstimateContest>> calls = new ArrayList<>();
        calls.add(c -> c.addPlayer());
        calls.add(c -> c.openQuestion(1));
        calls.add(c -> c.estimate(1, 0, 0, 0, 1, 1));
        calls.add(c -> c.settle(0));
        calls.add(c -> c.postpone());
        calls.add(c -> c.withdraw(0));
        calls.add(c -> View.run(c, "later"));
        calls.add(c -> View.run(c, "player;open 1;later;settle 1"));
        for (Consumer<EstimateContest> call : calls) {
            EstimateContest contest = unrecorded();
            String before = View.of(contest);
            call.accept(contest);
            Check.same("recorded", contest.undoCount(), 1);
            Check.same("undo", contest.undo(), 0);
            Check.same("undone", View.of(contest), before);
        }
        EstimateContest contest = unrecorded();
        contest.postpone();
        contest.postpone();
        View.run(contest, "later");
        Check.same("though nothing changes", contest.undoCount(), 3);
        contest.openQuestion(1);
        contest.settle(0);
        contest.settle(0);
        Check.same("though nobody bet", contest.undoCount(), 6);
        notRecorded();
    }

    private static void notRecorded() {
        EstimateContest contest = unrecorded();
        Scenes.questions(contest, 5);
        Scenes.players(contest, 3);
        contest.save();
        contest.restore();
        Check.outcome(contest::addPlayer);
        Check.outcome(() -> contest.openQuestion(1));
        Check.outcome(() -> contest.openQuestion(4));
        Check.outcome(() -> contest.estimate(0, 0, 0, 0, 1, 1));
        Check.outcome(() -> contest.settle(1000));
        Check.outcome(() -> contest.withdraw(5));
        Check.outcome(() -> View.run(contest, "x"));
        Check.outcome(() -> View.run(contest, "later;later;player"));
        Check.same("refused calls", contest.undoCount(), 0);
        contest.feed('x');
        contest.writeQuestion(0);
        contest.save();
        View.of(contest);
        Check.same("calls of other methods", contest.undoCount(), 0);
        contest.restore();
        Check.same("restore", contest.undoCount(), 0);
    }

    /** Each count of calls puts the eight kept ones at another place of whatever holds them. */
    private static void eightCalls() {
        for (int count = 0; count <= 30; count++) {
            EstimateContest contest = new EstimateContest();
            for (int i = 0; i < count; i++) {
                call(contest, i);
            }
            int kept = Math.min(count, 8);
            Check.same("undoCount of " + count, contest.undoCount(), kept);
            for (int left = kept - 1; left >= 0; left--) {
                Check.same("undo of " + count, contest.undo(), left);
                Check.same("settled of " + count, contest.settledQuestions(), (count - kept + left) / 2);
                Check.same("open of " + count, contest.openCount(), (count - kept + left) % 2);
            }
            Check.fails("one more of " + count, IllegalStateException.class, contest::undo);
        }
        undoneAndDoneAgain();
    }

    /** Opens and settles in turn, so that the state tells how many calls were made. */
    private static void call(EstimateContest contest, int index) {
        if (index % 2 == 0) {
            contest.openQuestion(1);
        } else {
            contest.settle(index);
        }
    }

    private static void undoneAndDoneAgain() {
        EstimateContest contest = new EstimateContest();
        int made = 0;
        for (int round = 0; round < 12; round++) {
            for (int i = 0; i < 12 - round; i++) {
                call(contest, made);
                made++;
            }
            int steps = Math.min(round % 9, contest.undoCount());
            for (int i = 0; i < steps; i++) {
                contest.undo();
                made--;
            }
            Check.same("settled", contest.settledQuestions(), made / 2);
            Check.same("open", contest.openCount(), made % 2);
        }
        int left = contest.undoCount();
        for (int i = 0; i < left; i++) {
            contest.undo();
            made--;
            Check.same("settled", contest.settledQuestions(), made / 2);
            Check.same("open", contest.openCount(), made % 2);
        }
        Check.fails("one more", IllegalStateException.class, contest::undo);
    }

    private static void partsOfTheState() {
        EstimateContest contest = Scenes.made(Scenes::single);
        contest.save();
        contest.openQuestion(3);
        Check.outcome(() -> View.run(contest, "later;x"));
        Check.outcome(() -> View.run(contest, "later;open 4"));
        contest.writeQuestion(1);
        contest.feed('l');
        contest.undo();
        outsideTheState(contest, 2);
        Check.same("the next question, undone", contest.openQuestion(2), 1);
        contest.settle(0);
        contest.restore();
        outsideTheState(contest, 3);
        Check.same("settled, restored", contest.settledQuestions(), 0);
        Check.fails("recentTruth, restored", NoSuchElementException.class, () -> contest.recentTruth(0));
        Check.same("the next question, restored", contest.openQuestion(2), 1);
        Check.same("the weight is the new one", contest.weight(1), 2);
        Check.same("the rest of the text", View.run(contest, "er"), 1);
    }

    /** Feeds as many letters of "later" as there are to be. */
    private static void outsideTheState(EstimateContest contest, int length) {
        Check.same("the input", contest.feed("later".charAt(length - 1)), length);
        Check.same("the output", View.output(contest), "q1w3");
        Check.same("the error position", contest.errorPosition(), 6);
        Check.same("the failed command", contest.failedCommand(), 1);
    }

    /** Fills the places of players and questions, which the state of a new object does not hold, in eight calls. */
    private static void spoil(EstimateContest contest) {
        Scenes.players(contest, 2);
        contest.openQuestion(3);
        contest.estimate(0, 0, 5, 6, 1, 20);
        contest.settle(5);
        contest.openQuestion(3);
        contest.estimate(0, 1, 5, 6, 9, 20);
        View.run(contest, "settle 9;out 0;out 1;open 3;open 2;later");
    }

    private static void asNew(EstimateContest contest) {
        Check.same("the state of a new object", View.of(contest), View.of(new EstimateContest()));
        EstimateContest other = new EstimateContest();
        for (EstimateContest one : List.of(contest, other)) {
            View.run(one, "player;player;open 1;open 1");
        }
        Check.same("the same new players and questions", View.of(contest), View.of(other));
    }

    private static void undoCount() {
        Sentence.promise(49, "Returns how many calls can be undone", () -> {
            EstimateContest contest = new EstimateContest();
            Check.same("none", contest.undoCount(), 0);
            contest.addPlayer();
            Check.same("one", contest.undoCount(), 1);
            Check.outcome(() -> contest.withdraw(1));
            Check.same("a refused one", contest.undoCount(), 1);
            contest.undo();
            Check.same("undone", contest.undoCount(), 0);
        });
        Sentence.promise(49, "Returns the number, 0 to 8", () -> {
            EstimateContest contest = new EstimateContest();
            for (int count = 0; count <= 20; count++) {
                Check.same("undoCount", contest.undoCount(), Math.min(count, 8));
                call(contest, count);
            }
            for (int count = 8; count > 0; count--) {
                Check.same("undoCount", contest.undoCount(), count);
                contest.undo();
            }
            Check.fails("one more", IllegalStateException.class, contest::undo);
            Check.same("undoCount", contest.undoCount(), 0);
        });
    }

    private static void undo() {
        Sentence.promise(50, "Undoes the latest recorded call", () -> {
            EstimateContest contest = Scenes.made(Scenes::single);
            String before = View.of(contest);
            contest.openQuestion(1);
            Check.outcome(() -> contest.openQuestion(0));
            contest.feed('x');
            contest.save();
            contest.undo();
            Check.same("the latest, behind others that are not recorded", View.of(contest), before);
            contest.undo();
            Check.same("the one before", contest.estimateCount(0), 0);
            Check.same("no more than that", contest.openCount(), 1);
            EstimateContest empty = new EstimateContest();
            spoil(empty);
            for (int left = 7; left >= 0; left--) {
                empty.undo();
            }
            asNew(empty);
        });
        Sentence.promise(50, "Returns how many calls can still be undone", () -> {
            EstimateContest contest = Scenes.made(Scenes::full);
            for (int left = 7; left >= 0; left--) {
                Check.same("undo", contest.undo(), left);
            }
            contest.postpone();
            Check.same("undo", contest.undo(), 0);
        });
        Sentence.promise(50, "Throws `IllegalStateException` if no call can be undone", () -> {
            Class<IllegalStateException> due = IllegalStateException.class;
            Check.refused("nothing there", due, Scenes::empty, c -> c.undo());
            Check.refused("all is undone", due, c -> undoAll(c, 3), c -> c.undo());
            Check.refused("eight are undone", due, c -> undoAll(c, 8), c -> c.undo());
            Check.refused("restored", due, c -> {
                Scenes.full(c);
                c.restore();
            }, c -> c.undo());
            Check.refused("only refused calls", due, c -> {
                Check.outcome(c::postpone);
                Check.outcome(() -> View.run(c, "later"));
            }, c -> c.undo());
        });
    }

    private static void undoAll(EstimateContest contest, int count) {
        Scenes.players(contest, 3);
        for (int i = 3; i < count; i++) {
            contest.openQuestion(1);
        }
        for (int i = 0; i < count; i++) {
            contest.undo();
        }
    }

    private static void save() {
        Sentence.promise(51, "An earlier saved state is replaced", () -> {
            EstimateContest contest = new EstimateContest();
            contest.save();
            Scenes.full(contest);
            contest.save();
            contest.settle(0);
            contest.restore();
            Check.same("by a full one", withoutUndo(contest), withoutUndo(Scenes.made(Scenes::full)));
            EstimateContest full = Scenes.made(Scenes::full);
            full.save();
            for (int i = 0; i < 6; i++) {
                full.settle(0);
            }
            full.save();
            full.openQuestion(1);
            full.restore();
            Check.same("by an emptier one", full.openCount(), 0);
        });
        Sentence.promise(51, "Returns the number of open questions", () -> {
            Check.same("none", new EstimateContest().save(), 0);
            EstimateContest contest = new EstimateContest();
            for (int count = 1; count <= 6; count++) {
                contest.openQuestion(1);
                Check.same("save", contest.save(), count);
            }
        });
    }

    private static String withoutUndo(EstimateContest contest) {
        return View.of(contest).replaceAll(" undo \\d+", "");
    }

    private static void restore() {
        Sentence.promise(52, "Restores the saved state", () -> {
            EstimateContest empty = new EstimateContest();
            empty.save();
            spoil(empty);
            empty.restore();
            asNew(empty);
            EstimateContest full = Scenes.made(Scenes::full);
            full.save();
            for (int i = 0; i < 6; i++) {
                full.settle(i);
                full.openQuestion(3);
                Check.outcome(() -> full.withdraw(full.settledQuestions() % 5));
            }
            full.restore();
            Check.same("all places taken", withoutUndo(full), withoutUndo(Scenes.made(Scenes::full)));
        });
        Sentence.promise(52, "The saved state is kept, and no call can be undone afterwards", () -> {
            EstimateContest contest = Scenes.made(Scenes::single);
            contest.save();
            for (int round = 0; round < 3; round++) {
                contest.settle(0);
                contest.addPlayer();
                contest.restore();
                Check.same("players", contest.playerCount(), 1);
                Check.same("open", contest.openCount(), 1);
                Check.same("staked", contest.stakedCoins(), 10);
                Check.same("undoCount", contest.undoCount(), 0);
                Check.fails("undo", IllegalStateException.class, contest::undo);
            }
            for (int count = 1; count <= 9; count++) {
                contest.postpone();
                Check.same("undoCount", contest.undoCount(), Math.min(count, 8));
            }
        });
        Sentence.promise(52, "Returns the number of open questions", () -> {
            for (int count = 0; count <= 6; count++) {
                EstimateContest contest = new EstimateContest();
                for (int i = 0; i < count; i++) {
                    contest.openQuestion(1);
                }
                contest.save();
                Check.outcome(() -> contest.settle(0));
                Check.same("restore", contest.restore(), count);
            }
        });
        Sentence.promise(52, "Throws `IllegalStateException` if no state was saved", () -> {
            Class<IllegalStateException> due = IllegalStateException.class;
            Check.refused("nothing there", due, Scenes::empty, c -> c.restore());
            Check.refused("all places taken", due, c -> {
                Scenes.players(c, 5);
                Scenes.questions(c, 6);
            }, c -> c.restore());
            EstimateContest contest = new EstimateContest();
            contest.save();
            Check.same("an empty state was saved", contest.restore(), 0);
        });
    }
}
