import java.util.NoSuchElementException;

/** Promises 43 to 46: the input buffer and its commands. */
final class CommandsTest {
    private static final int LONGEST = 60;

    public static void main(String[] args) {
        feedCountsUp();
        feedRefusesTheSixtyFirst();
        commandsDoWhatTheirMethodsDo();
        numbersMayHaveLeadingZeros();
        numbersOfTwoDigits();
        malformedTextsTellTheirPlace();
        endlessPrefixesEndTooEarly();
        everySignThatCannotGoOnIsFound();
        malformedTextsChangeNothing();
        failedCommandsChangeNothing();
        everyFaultFails();
        failuresKeepTheOldestUndo();
        positionsAreKept();
        runsAreOneRecordedCall();
        Check.finish();
    }

    private static void feedCountsUp() {
        EstimateContest contest = new EstimateContest();
        char[] signs = {'a', ';', ' ', (char) 0, (char) 255, (char) 256, (char) 65535};
        for (int i = 0; i < signs.length; i++) {
            Check.same("feed", contest.feed(signs[i]), i + 1);
        }
        Check.same("is not recorded", contest.undoCount(), 0);
    }

    private static void feedRefusesTheSixtyFirst() {
        EstimateContest contest = new EstimateContest();
        for (int i = 1; i <= LONGEST; i++) {
            Check.same("feed", contest.feed('p'), i);
        }
        Check.fails("feed", IllegalStateException.class, () -> contest.feed('p'));
        Check.fails("runCommands", IllegalArgumentException.class, contest::runCommands);
        Check.same("errorPosition", contest.errorPosition(), 1);
        Check.same("feed of an empty buffer", contest.feed('p'), 1);
        Check.refused("feed", IllegalStateException.class, c -> {
            Scenes.players(c, 1);
            View.feed(c, ("later;").repeat(10));
        }, c -> c.feed('!'));
    }

    private static void commandsDoWhatTheirMethodsDo() {
        EstimateContest byText = new EstimateContest();
        EstimateContest byCalls = new EstimateContest();
        Check.same("run", View.run(byText, "player;player;open 1;open 2;open 3"), 5);
        Scenes.players(byCalls, 2);
        Scenes.questions(byCalls, 3);
        sameState(byText, byCalls);
        Check.same("run", View.run(byText, "bet 0 1 10-25 9 20;bet 1 1 999-999 1 7;later"), 3);
        byCalls.estimate(0, 1, 10, 25, 9, 20);
        byCalls.estimate(1, 1, 999, 999, 1, 7);
        byCalls.postpone();
        sameState(byText, byCalls);
        Check.same("run", View.run(byText, "settle 26;out 1;bet 0 2 0-9 2 3"), 3);
        byCalls.settle(26);
        byCalls.withdraw(1);
        byCalls.estimate(0, 2, 0, 9, 2, 3);
        sameState(byText, byCalls);
        Check.same("run of ten", View.run(byText, "later;later;later;later;later;later;later;later;later;later"), 10);
    }

    /** Compares without the count of undoable calls, in which one text differs from its commands' calls. */
    private static void sameState(EstimateContest one, EstimateContest other) {
        one.save();
        other.save();
        one.restore();
        other.restore();
        Check.same("the state", View.of(one), View.of(other));
    }

    private static void numbersMayHaveLeadingZeros() {
        EstimateContest contest = new EstimateContest();
        View.run(contest, "player;open 1;bet 0 00 007-09 5 05");
        Check.same("low", contest.low(0, 0), 7);
        Check.same("high", contest.high(0, 0), 9);
        Check.same("stake", contest.stake(0, 0), 5);
        View.run(contest, "settle 008");
        Check.same("recentTruth", contest.recentTruth(0), 8);
    }

    private static void numbersOfTwoDigits() {
        EstimateContest contest = new EstimateContest();
        contest.addPlayer();
        for (int i = 0; i < 42; i++) {
            contest.openQuestion(1);
            contest.settle(0);
        }
        contest.openQuestion(2);
        View.run(contest, "bet 0 42 123-456 7 18");
        contest.writeQuestion(42);
        Check.same("the question", View.output(contest), "q42w2 0:123-456c7");
        Check.same("stake", contest.stake(0, 42), 18);
    }

    private static void malformed(String text, int place) {
        Check.refused("run of '" + text + "'", IllegalArgumentException.class, c -> {
            Scenes.players(c, 2);
            View.feed(c, "?");
            Check.outcome(c::runCommands);
        }, c -> {
            View.feed(c, text);
            String outcome = Check.outcome(c::runCommands);
            Check.same("errorPosition of '" + text + "'", c.errorPosition(), place);
            View.feed(c, "?");
            Check.outcome(c::runCommands);
            if (outcome.equals("throws IllegalArgumentException")) {
                throw new IllegalArgumentException();
            }
            return outcome;
        });
    }

    private static void malformedTextsTellTheirPlace() {
        malformed("", 0);
        malformed(";", 0);
        malformed(" player", 0);
        malformed("Player", 0);
        malformed("plAyer", 2);
        malformed("players", 6);
        malformed("player ", 6);
        malformed("player;", 7);
        malformed("player;;player", 7);
        malformed("player; player", 7);
        malformed("player;out 0;x", 13);
        malformed("o", 1);
        malformed("oxen", 1);
        malformed("oper", 3);
        malformed("oun", 2);
        malformed("open", 4);
        malformed("open1", 4);
        malformed("open ", 5);
        malformed("open  1", 5);
        malformed("open x", 5);
        malformed("open -1", 5);
        malformed("open 12", 6);
        malformed("open 1 ", 6);
        malformed("out 01", 5);
        malformed("out 0,", 5);
        malformed("settle 1000", 10);
        malformed("settle", 6);
        malformed("settle ;", 7);
        malformed("later 1", 5);
        malformed("later\n", 5);
        malformed("bet 10 1 2-3 4 5", 5);
        malformed("bet 0 100 2-3 4 5", 8);
        malformed("bet 0 1 2000-3 4 5", 11);
        malformed("bet 0 1 2 3 4 5", 9);
        malformed("bet 0 1 2--3 4 5", 10);
        malformed("bet 0 1 2-3000 4 5", 13);
        malformed("bet 0 1 2-3 44 5", 13);
        malformed("bet 0 1 2-3 4 500", 16);
        malformed("bet 0 1 2-3 4", 13);
        malformed("bet 0 1 2-3 4 ", 14);
        malformed("bet 0 1 2-3 4 5 ", 15);
        malformed("open 1;bet 0 1", 14);
        malformed("open " + (char) ('1' + 256), 5);
        malformed("open " + (char) 0x0661, 5);
        malformed((char) ('p' + 256) + "layer", 0);
        malformed("open /", 5);
        malformed("open :", 5);
    }

    private static final String[] WELL_FORMED = {
        "player", "open 2", "bet 1 22 333-444 5 66", "bet 1 2 3-4 5 6", "settle 123", "later", "out 4",
        "open 0;player;out 9;later;settle 1"
    };

    /** A text that is cut off within a command is malformed at its length. */
    private static void endlessPrefixesEndTooEarly() {
        String[] texts = {"player", "open 2", "settle 1", "later", "out 4", "bet 1 2 3-4 5 6"};
        for (String text : texts) {
            for (int length = 0; length < text.length(); length++) {
                malformed(text.substring(0, length), length);
                malformed("later;" + text.substring(0, length), 6 + length);
            }
        }
    }

    /** A sign that no form knows is the error wherever it stands. */
    private static void everySignThatCannotGoOnIsFound() {
        for (String text : WELL_FORMED) {
            for (int place = 0; place < text.length(); place++) {
                malformed(text.substring(0, place) + "~" + text.substring(place + 1), place);
                malformed(text.substring(0, place) + "~" + text.substring(place), place);
            }
            malformed(text + "~", text.length());
        }
    }

    private static void malformedTextsChangeNothing() {
        Check.refused("malformed", IllegalArgumentException.class, c -> {
            Scenes.busy(c);
            Check.outcome(c::runCommands);
            Check.outcome(() -> View.run(c, "player;oops"));
        }, c -> View.run(c, "open 1;oops"));
    }

    private static void fails(String text, int command) {
        EstimateContest contest = new EstimateContest();
        EstimateContest twin = new EstimateContest();
        for (EstimateContest one : new EstimateContest[] {contest, twin}) {
            Scenes.busy(one);
            one.runCommands();
            one.undo();
        }
        Check.fails("run of '" + text + "'", UnsupportedOperationException.class, () -> View.run(contest, text));
        Check.same("failedCommand of '" + text + "'", contest.failedCommand(), command);
        String before = View.of(twin).replaceAll("failed \\d+", "failed " + command);
        Check.same("state after '" + text + "'", View.of(contest), before);
        Check.same("buffer after '" + text + "'", contest.feed('x'), 1);
    }

    private static void failedCommandsChangeNothing() {
        fails("open 0", 0);
        fails("player;open 3;later;settle 5;out 9", 4);
        fails("player;player;player;open 1", 2);
        fails("out 0;out 1;settle 1;settle 2;settle 3;settle 4", 5);
        fails("settle 20;bet 0 1 0-0 1 1", 1);
    }

    private static void everyFaultFails() {
        fails("open 4", 0);
        fails("open 1;open 1;open 1;open 1", 3);
        fails("bet 3 3 0-0 1 1", 0);
        fails("bet 0 0 0-0 1 1", 0);
        fails("bet 0 4 0-0 1 1", 0);
        fails("bet 0 3 5-4 1 1", 0);
        fails("bet 0 3 0-0 0 1", 0);
        fails("bet 0 3 0-0 1 0", 0);
        fails("bet 0 3 0-0 1 21", 0);
        fails("bet 0 3 0-0 1 99", 0);
        fails("bet 2 3 0-0 1 1", 0);
        fails("bet 0 1 0-0 1 1", 0);
        fails("out 2", 0);
        fails("out 3", 0);
        fails("out 1;out 1", 1);
        Check.refused("settle without a question", UnsupportedOperationException.class, CommandsTest::failOnce,
                c -> View.run(c, "settle 1"));
        Check.refused("later without a question", UnsupportedOperationException.class, CommandsTest::failOnce,
                c -> View.run(c, "later"));
    }

    private static void failOnce(EstimateContest contest) {
        Check.outcome(() -> View.run(contest, "open 9"));
    }

    private static void failuresKeepTheOldestUndo() {
        EstimateContest contest = new EstimateContest();
        Scenes.players(contest, 2);
        Scenes.questions(contest, 6);
        for (int i = 0; i < 12; i++) {
            Check.fails("a failing text", UnsupportedOperationException.class, () -> View.run(contest, "later;open 1"));
        }
        Check.same("undoCount", contest.undoCount(), 8);
        for (int i = 7; i >= 0; i--) {
            Check.same("undo", contest.undo(), i);
        }
        Check.same("players", contest.playerCount(), 0);
        Check.same("open", contest.openCount(), 0);
    }

    private static void positionsAreKept() {
        Check.refused("errorPosition", NoSuchElementException.class, Scenes::empty, c -> c.errorPosition());
        Check.refused("failedCommand", NoSuchElementException.class, Scenes::empty, c -> c.failedCommand());
        EstimateContest contest = new EstimateContest();
        Check.outcome(() -> View.run(contest, "player;later"));
        Check.fails("no malformed text yet", NoSuchElementException.class, contest::errorPosition);
        Check.same("failedCommand", contest.failedCommand(), 1);
        Check.outcome(() -> View.run(contest, "player;late"));
        Check.same("errorPosition", contest.errorPosition(), 11);
        Check.same("failedCommand stays", contest.failedCommand(), 1);
        Check.outcome(() -> View.run(contest, "settle 1"));
        Check.same("failedCommand", contest.failedCommand(), 0);
        Check.same("errorPosition stays", contest.errorPosition(), 11);
        contest.save();
        View.run(contest, "player");
        contest.undo();
        contest.restore();
        Check.same("failedCommand stays", contest.failedCommand(), 0);
        Check.same("errorPosition stays", contest.errorPosition(), 11);
        Check.outcome(contest::runCommands);
        Check.same("errorPosition of no text", contest.errorPosition(), 0);
    }

    private static void runsAreOneRecordedCall() {
        EstimateContest contest = new EstimateContest();
        contest.addPlayer();
        View.run(contest, "player;open 2;bet 1 0 5-6 7 8");
        Check.same("undoCount", contest.undoCount(), 2);
        Check.same("undo", contest.undo(), 1);
        Check.same("players", contest.playerCount(), 1);
        Check.same("open", contest.openCount(), 0);
        Check.same("the number is free again", contest.openQuestion(1), 0);
    }
}
