import java.util.NoSuchElementException;

/** Calls with players and questions that are not there, and with the first and the last ones that are. */
final class Absent {
    /** Whom the scene full does not hold: one before the first, one behind the last, and the farthest. */
    static final int[] PLAYERS = {-1, 5, Integer.MIN_VALUE, Integer.MAX_VALUE};
    /** What is not open in the scene full: settled questions, the next one, and the farthest. */
    static final int[] QUESTIONS = {-1, 0, 1, 8, Integer.MIN_VALUE, Integer.MAX_VALUE};

    private Absent() {
    }

    /** A call with a number as its argument. */
    interface CallOf {
        Object at(EstimateContest contest, int number);
    }

    static void players(CallOf call) {
        Class<IndexOutOfBoundsException> due = IndexOutOfBoundsException.class;
        for (int player : PLAYERS) {
            Check.refused("player " + player + " of five", due, Scenes::full, c -> call.at(c, player));
        }
        Check.refused("player 0 of none", due, Scenes::empty, c -> call.at(c, 0));
        Check.refused("player -1 of none", due, Scenes::empty, c -> call.at(c, -1));
        Check.refused("player 1 of one", due, Scenes::single, c -> call.at(c, 1));
        Check.refused("an undone player", due, c -> {
            Scenes.single(c);
            c.addPlayer();
            c.undo();
        }, c -> call.at(c, 1));
        Check.refused("a player who was not saved", due, c -> {
            Scenes.single(c);
            c.save();
            c.addPlayer();
            c.restore();
        }, c -> call.at(c, 1));
    }

    static void questions(CallOf call) {
        Class<NoSuchElementException> due = NoSuchElementException.class;
        for (int question : QUESTIONS) {
            Check.refused("question " + question, due, Scenes::full, c -> call.at(c, question));
        }
        Check.refused("question 0 of none", due, c -> c.addPlayer(), c -> call.at(c, 0));
        Check.refused("question 1 of one", due, Scenes::single, c -> call.at(c, 1));
        Check.refused("the only one, settled", due, c -> {
            Scenes.single(c);
            c.settle(150);
        }, c -> call.at(c, 0));
        Check.refused("an undone question", due, c -> {
            Scenes.single(c);
            c.openQuestion(1);
            c.undo();
        }, c -> call.at(c, 1));
        Check.refused("a question that was not saved", due, c -> {
            Scenes.single(c);
            c.save();
            c.openQuestion(1);
            c.restore();
        }, c -> call.at(c, 1));
    }

    /** Players and questions that are there, but without an estimate. */
    static void estimates(EstimatesCall call) {
        Class<NoSuchElementException> due = NoSuchElementException.class;
        Check.refused("a question without estimates", due, Scenes::full, c -> call.at(c, 0, 2));
        Check.refused("the first question without estimates", due, Scenes::questionsAlone, c -> call.at(c, 0, 0));
        Check.refused("between two who have one", due, Scenes::full, c -> call.at(c, 2, 3));
        Check.refused("before the one who has one", due, Scenes::full, c -> call.at(c, 0, 5));
        Check.refused("behind the one who has one", due, Scenes::full, c -> call.at(c, 4, 5));
        Check.refused("one who has withdrawn", due, c -> {
            Scenes.full(c);
            c.withdraw(4);
        }, c -> call.at(c, 4, 4));
        Check.refused("an undone estimate", due, c -> {
            Scenes.single(c);
            c.undo();
        }, c -> call.at(c, 0, 0));
    }

    /** A call with a player and a question as its arguments. */
    interface EstimatesCall {
        Object at(EstimateContest contest, int player, int question);
    }

    /** The call answers for each of the five players of the scene full, and for an only player, and for no more. */
    static void allPlayers(CallOf call, Object... due) {
        for (int player = 0; player < 5; player++) {
            Check.same("player " + player + " of five", call.at(Scenes.made(Scenes::full), player), due[player]);
        }
        Check.same("player 0 of one", Check.outcome(() -> call.at(Scenes.made(Scenes::single), 0)), due[5].toString());
        noPlayersBeside(call);
    }

    static void noPlayersBeside(CallOf call) {
        Class<IndexOutOfBoundsException> due = IndexOutOfBoundsException.class;
        Check.fails("player -1 of five", due, () -> call.at(Scenes.made(Scenes::full), -1));
        Check.fails("player 5 of five", due, () -> call.at(Scenes.made(Scenes::full), 5));
        Check.fails("player 1 of one", due, () -> call.at(Scenes.made(Scenes::single), 1));
    }

    /** The call answers for each of the six questions 2 to 7 of the scene full, and for an only one, and for no more. */
    static void allQuestions(CallOf call, Object... due) {
        for (int question = 2; question < 8; question++) {
            Check.same("question " + question, call.at(Scenes.made(Scenes::full), question), due[question - 2]);
        }
        Check.same("question 0 of one", call.at(Scenes.made(Scenes::single), 0), due[6]);
        noQuestionsBeside(call);
    }

    static void noQuestionsBeside(CallOf call) {
        Class<NoSuchElementException> due = NoSuchElementException.class;
        Check.fails("question 1 of 2 to 7", due, () -> call.at(Scenes.made(Scenes::full), 1));
        Check.fails("question 8 of 2 to 7", due, () -> call.at(Scenes.made(Scenes::full), 8));
        Check.fails("question -1 of 0", due, () -> call.at(Scenes.made(Scenes::single), -1));
        Check.fails("question 1 of 0", due, () -> call.at(Scenes.made(Scenes::single), 1));
    }
}
