import java.util.NoSuchElementException;

/** Promises 47 and 48: the description of a question. */
final class OutputTest {
    public static void main(String[] args) {
        writesTheExample();
        writesInTheOrderOfTheEstimates();
        writesTheLongest();
        replacesTheOutput();
        writeQuestionRefuses();
        outputCharRefuses();
        Check.finish();
    }

    private static void written(EstimateContest contest, int question, String due) {
        Check.same("writeQuestion", contest.writeQuestion(question), due.length());
        Check.same("output", View.output(contest), due);
        Check.same("the first character", contest.outputChar(0), 'q');
        Check.same("the last character", contest.outputChar(due.length() - 1), due.charAt(due.length() - 1));
    }

    private static void writesTheExample() {
        EstimateContest contest = new EstimateContest();
        contest.addPlayer();
        Scenes.questions(contest, 3);
        contest.openQuestion(2);
        contest.estimate(0, 3, 10, 25, 9, 20);
        written(contest, 3, "q3w2 0:10-25c9");
        Check.same("is not recorded", contest.undoCount(), 6);
    }

    private static void writesInTheOrderOfTheEstimates() {
        EstimateContest contest = new EstimateContest();
        Scenes.players(contest, 3);
        contest.openQuestion(1);
        written(contest, 0, "q0w1");
        contest.estimate(2, 0, 0, 0, 1, 1);
        written(contest, 0, "q0w1 2:0-0c1");
        contest.estimate(0, 0, 5, 999, 5, 20);
        contest.estimate(1, 0, 100, 101, 9, 2);
        written(contest, 0, "q0w1 2:0-0c1 0:5-999c5 1:100-101c9");
        contest.withdraw(2);
        written(contest, 0, "q0w1 0:5-999c5 1:100-101c9");
    }

    private static void writesTheLongest() {
        EstimateContest contest = new EstimateContest();
        for (int i = 0; i < 101; i++) {
            contest.openQuestion(1);
            contest.settle(1);
        }
        Scenes.players(contest, 5);
        contest.openQuestion(3);
        for (int player = 0; player < 5; player++) {
            contest.estimate(player, 101, 990 + player, 999, 9, 20);
        }
        written(contest, 101, "q101w3 0:990-999c9 1:991-999c9 2:992-999c9 3:993-999c9 4:994-999c9");
    }

    private static void replacesTheOutput() {
        EstimateContest contest = new EstimateContest();
        contest.addPlayer();
        Scenes.questions(contest, 2);
        contest.estimate(0, 0, 1, 2, 3, 4);
        written(contest, 0, "q0w1 0:1-2c3");
        written(contest, 1, "q1w2");
        Check.fails("behind the end", IndexOutOfBoundsException.class, () -> contest.outputChar(4));
        contest.settle(0);
        contest.undo();
        contest.undo();
        Check.same("the output stays", View.output(contest), "q1w2");
    }

    private static void writeQuestionRefuses() {
        for (int question : Scenes.ABSENT_QUESTIONS) {
            Check.refused("writeQuestion " + question, NoSuchElementException.class, Scenes::busy,
                    c -> c.writeQuestion(question));
        }
        Check.refused("writeQuestion", NoSuchElementException.class, Scenes::empty, c -> c.writeQuestion(0));
    }

    private static void outputCharRefuses() {
        Check.refused("outputChar", IndexOutOfBoundsException.class, Scenes::empty, c -> c.outputChar(0));
        String output = "q1w1 1:5-50c9 0:0-20c2";
        EstimateContest contest = new EstimateContest();
        Scenes.busy(contest);
        Check.same("output", View.output(contest), output);
        for (int index : new int[] {-1, output.length(), 60, Integer.MIN_VALUE, Integer.MAX_VALUE}) {
            Check.refused("outputChar " + index, IndexOutOfBoundsException.class, Scenes::busy,
                    c -> c.outputChar(index));
        }
    }
}
