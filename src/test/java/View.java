import java.util.ArrayList;
import java.util.List;

/** Everything of a contest that can be seen without changing it, as a text. */
final class View {
    /** A look at a contest, which may change it. */
    interface Look {
        String at(EstimateContest contest);
    }

    /** Together they show the state, all states that undo and restore bring back, and what becomes of further changes. */
    static final List<Look> LOOKS = looks();

    private View() {
    }

    private static List<Look> looks() {
        List<Look> looks = new ArrayList<>(List.of(View::of, View::ofInput, View::afterRestore, View::afterChanges));
        for (int steps = 1; steps <= 8; steps++) {
            int undone = steps;
            looks.add(contest -> afterUndo(contest, undone));
        }
        return looks;
    }

    static String of(EstimateContest contest) {
        StringBuilder text = new StringBuilder();
        addPlayers(text, contest);
        addQuestions(text, contest);
        addBins(text, contest);
        text.append("\nhouse ").append(contest.houseCoins()).append(" staked ").append(contest.stakedCoins());
        text.append(" settled ").append(contest.settledQuestions());
        for (int back = 0; back < 6; back++) {
            int asked = back;
            text.append(' ').append(Check.outcome(() -> contest.recentTruth(asked)));
        }
        text.append("\nbest ").append(Check.outcome(contest::bestCalibrated));
        text.append(" consistent ").append(contest.isConsistent());
        text.append(" undo ").append(contest.undoCount());
        text.append("\nerror ").append(Check.outcome(contest::errorPosition));
        text.append(" failed ").append(Check.outcome(contest::failedCommand));
        text.append("\noutput ").append(output(contest));
        return text.toString();
    }

    static String output(EstimateContest contest) {
        StringBuilder text = new StringBuilder();
        try {
            for (int i = 0; i < 1000; i++) {
                text.append(contest.outputChar(i));
            }
        } catch (IndexOutOfBoundsException end) {
            return text.toString();
        }
        return "an output without an end";
    }

    /** Shows the input buffer by spoiling it: its length, and where and how the text with a sign more goes wrong. */
    static String ofInput(EstimateContest contest) {
        String length = Check.outcome(() -> contest.feed('!'));
        String run = Check.outcome(contest::runCommands);
        return length + " " + run + " " + Check.outcome(contest::errorPosition);
    }

    private static String afterRestore(EstimateContest contest) {
        return Check.outcome(contest::restore) + "\n" + of(contest);
    }

    private static String afterUndo(EstimateContest contest, int steps) {
        StringBuilder text = new StringBuilder();
        for (int i = 0; i < steps; i++) {
            text.append(Check.outcome(contest::undo)).append('\n');
        }
        return text.append(of(contest)).toString();
    }

    /** Settles first, so that there is room for a question, whose number then shows. */
    private static String afterChanges(EstimateContest contest) {
        StringBuilder text = new StringBuilder();
        text.append(Check.outcome(() -> contest.settle(500))).append(' ');
        text.append(Check.outcome(contest::addPlayer)).append(' ');
        int question = contest.openQuestion(3);
        text.append(question).append(' ').append(Check.outcome(() -> contest.estimate(0, question, 1, 999, 2, 3)));
        text.append(' ').append(contest.postpone()).append(' ').append(Check.outcome(() -> contest.withdraw(1)));
        return text.append('\n').append(of(contest)).toString();
    }

    static void feed(EstimateContest contest, String text) {
        for (int i = 0; i < text.length(); i++) {
            contest.feed(text.charAt(i));
        }
    }

    static int run(EstimateContest contest, String text) {
        feed(contest, text);
        return contest.runCommands();
    }

    private static void addPlayers(StringBuilder text, EstimateContest contest) {
        text.append("players ").append(contest.playerCount());
        for (int i = 0; i < contest.playerCount(); i++) {
            int player = i;
            text.append("\n player ").append(contest.coins(i)).append(' ').append(contest.hasWithdrawn(i));
            text.append(' ').append(contest.settledEstimates(i)).append(' ').append(contest.hits(i));
            text.append(' ').append(contest.score(i)).append(' ');
            text.append(Check.outcome(() -> contest.meanScore(player)));
            text.append(' ').append(contest.calibrationError(i)).append(" ranks ").append(contest.playerByScore(i));
        }
    }

    private static void addQuestions(StringBuilder text, EstimateContest contest) {
        text.append("\nopen ").append(contest.openCount());
        for (int place = 0; place < contest.openCount(); place++) {
            int question = contest.questionAt(place);
            text.append("\n question ").append(question).append(' ').append(contest.positionOf(question));
            text.append(' ').append(contest.weight(question)).append(' ').append(contest.coveredValues(question));
            text.append(' ').append(Check.outcome(() -> contest.mostCovered(question)));
            text.append(' ').append(Check.outcome(() -> contest.mostCoveredBySweep(question)));
            for (int rank = 0; rank < contest.estimateCount(question); rank++) {
                int player = contest.estimator(question, rank);
                text.append("\n  ").append(player).append(' ').append(contest.low(player, question));
                text.append(' ').append(contest.high(player, question));
                text.append(' ').append(contest.confidence(player, question));
                text.append(' ').append(contest.stake(player, question));
                text.append(' ').append(contest.winnings(player, question));
            }
        }
    }

    private static void addBins(StringBuilder text, EstimateContest contest) {
        for (int c = 1; c <= 9; c++) {
            int confidence = c;
            text.append("\nbin ").append(contest.binSize(c)).append(' ').append(contest.binSizeByPlayers(c));
            text.append(' ').append(contest.binHits(c)).append(' ');
            text.append(Check.outcome(() -> contest.binShare(confidence)));
        }
    }
}
