import java.util.ArrayList;
import java.util.List;
import java.util.Random;
import java.util.function.Supplier;

/** Random runs of 512 calls, the same in every run of this test, each call made of the class and of the model. */
final class ModelTest {
    private static final int RUNS = 400;
    private static final int CALLS = 512;
    private static final int MAX_TEXT = 60;
    private static final int[] EXTREMES = {-1, Integer.MIN_VALUE, Integer.MAX_VALUE, 1000, 10, 21, 6};

    private final Random random;
    private final EstimateContest contest = new EstimateContest();
    private final Model model = new Model();
    private final List<String> told = new ArrayList<>();
    private boolean isRight = true;

    private ModelTest(int seed) {
        random = new Random(seed);
    }

    public static void main(String[] args) {
        for (int seed = 0; seed < RUNS; seed++) {
            Check.same("run of the seed " + seed, new ModelTest(seed).run(), "as due");
        }
        Check.finish();
    }

    private String run() {
        int changes = 1 + random.nextInt(3);
        while (isRight && told.size() < CALLS) {
            if (random.nextInt(4) < changes) {
                change();
            } else {
                ask();
            }
        }
        return isRight ? "as due" : String.join(", ", told.subList(Math.max(0, told.size() - 12), told.size()));
    }

    private void both(String call, Supplier<Object> due, Supplier<Object> got) {
        if (!isRight || told.size() >= CALLS) {
            return;
        }
        String dueOutcome = Check.outcome(due);
        String outcome = Check.outcome(got);
        isRight = outcome.equals(dueOutcome);
        told.add(call + " = " + outcome + (isRight ? "" : " (due is " + dueOutcome + ")"));
    }

    /** Mostly a number below the bound, at times one beside it or far away. */
    private int number(int first, int bound) {
        int kind = random.nextInt(20);
        if (kind == 0) {
            return EXTREMES[random.nextInt(EXTREMES.length)];
        }
        return kind == 1 ? (random.nextBoolean() ? first - 1 : bound) : first + random.nextInt(bound - first);
    }

    private int player() {
        return number(0, Math.max(1, model.playerCount()));
    }

    private int question() {
        int open = model.openCount();
        return open == 0 || random.nextInt(12) == 0 ? number(0, 12) : model.questionAt(random.nextInt(open));
    }

    private int value() {
        return random.nextInt(3) > 0 ? 490 + random.nextInt(20) : number(0, 1000);
    }

    private void change() {
        switch (random.nextInt(16)) {
            case 0 -> both("addPlayer", model::addPlayer, contest::addPlayer);
            case 1, 2 -> {
                int weight = number(1, 4);
                both("openQuestion " + weight, () -> model.openQuestion(weight), () -> contest.openQuestion(weight));
            }
            case 3, 4, 5, 6 -> estimate();
            case 7, 8 -> {
                int truth = value();
                both("settle " + truth, () -> model.settle(truth), () -> contest.settle(truth));
            }
            case 9 -> both("postpone", model::postpone, contest::postpone);
            case 10 -> withdraw();
            case 11, 12 -> text();
            case 13 -> both("undo", model::undo, contest::undo);
            case 14 -> saveOrRestore();
            default -> write();
        }
    }

    private void estimate() {
        int player = player();
        int question = question();
        int one = value();
        int other = random.nextInt(8) == 0 ? number(0, 1000) : one + random.nextInt(90);
        int low = random.nextInt(20) == 0 ? one : Math.min(one, other);
        int high = low == one ? other : one;
        int confidence = number(1, 10);
        int stake = number(1, 21);
        both("estimate " + player + " " + question + " " + low + " " + high + " " + confidence + " " + stake,
                () -> model.estimate(player, question, low, high, confidence, stake),
                () -> contest.estimate(player, question, low, high, confidence, stake));
    }

    private void withdraw() {
        int player = random.nextInt(3) == 0 ? player() : -1;
        both("withdraw " + player, () -> model.withdraw(player), () -> contest.withdraw(player));
    }

    private void saveOrRestore() {
        if (random.nextInt(3) > 0) {
            both("save", model::save, contest::save);
        } else {
            both("restore", model::restore, contest::restore);
        }
    }

    private void write() {
        int question = question();
        both("writeQuestion " + question, () -> model.writeQuestion(question), () -> contest.writeQuestion(question));
        int index = number(0, 30);
        both("outputChar " + index, () -> model.outputChar(index), () -> contest.outputChar(index));
    }

    private void text() {
        StringBuilder text = new StringBuilder(command());
        int more = random.nextInt(5);
        for (int i = 0; i < more; i++) {
            text.append(';').append(command());
        }
        if (text.length() > MAX_TEXT && random.nextInt(8) > 0) {
            text.setLength(Math.max(text.lastIndexOf(";", MAX_TEXT), 1));
        }
        if (random.nextInt(3) == 0) {
            spoil(text);
        }
        for (int i = 0; i < text.length(); i++) {
            char sign = text.charAt(i);
            both("feed '" + sign + "'", () -> model.feed(sign), () -> contest.feed(sign));
        }
        if (random.nextInt(12) > 0) {
            both("runCommands", model::runCommands, contest::runCommands);
        }
        both("errorPosition", model::errorPosition, contest::errorPosition);
        both("failedCommand", model::failedCommand, contest::failedCommand);
    }

    private String command() {
        return switch (random.nextInt(12)) {
            case 0 -> "player";
            case 1, 2, 3 -> "open " + random.nextInt(random.nextInt(4) == 0 ? 10 : 3);
            case 4, 5, 6 -> "bet " + random.nextInt(5) + " " + Math.abs(question() % 100) + " " + random.nextInt(500)
                    + "-" + (490 + random.nextInt(20)) + " " + (1 + random.nextInt(9)) + " " + random.nextInt(21);
            case 7, 8 -> "settle " + (480 + random.nextInt(40));
            case 9, 10 -> "later";
            default -> "out " + random.nextInt(10);
        };
    }

    private void spoil(StringBuilder text) {
        String signs = "0123456789 -;abdelnoprstuy~";
        int place = random.nextInt(text.length());
        char sign = signs.charAt(random.nextInt(signs.length()));
        switch (random.nextInt(4)) {
            case 0 -> text.deleteCharAt(place);
            case 1 -> text.insert(place, sign);
            case 2 -> text.setLength(place);
            default -> text.setCharAt(place, sign);
        }
    }

    private void ask() {
        switch (random.nextInt(4)) {
            case 0 -> askOfPlayers();
            case 1 -> askOfQuestions();
            case 2 -> askOfEstimates();
            default -> askOfAll();
        }
    }

    private void askOfPlayers() {
        int player = player();
        String of = " of " + player;
        switch (random.nextInt(8)) {
            case 0 -> both("coins" + of, () -> model.coins(player), () -> contest.coins(player));
            case 1 -> both("hasWithdrawn" + of, () -> model.hasWithdrawn(player), () -> contest.hasWithdrawn(player));
            case 2 -> both("settledEstimates" + of, () -> model.settledEstimates(player),
                    () -> contest.settledEstimates(player));
            case 3 -> both("hits" + of, () -> model.hits(player), () -> contest.hits(player));
            case 4 -> both("score" + of, () -> model.score(player), () -> contest.score(player));
            case 5 -> both("meanScore" + of, () -> model.meanScore(player), () -> contest.meanScore(player));
            case 6 -> both("calibrationError" + of, () -> model.calibrationError(player),
                    () -> contest.calibrationError(player));
            default -> both("playerByScore" + of, () -> model.playerByScore(player),
                    () -> contest.playerByScore(player));
        }
    }

    private void askOfQuestions() {
        int question = question();
        int rank = number(0, 4);
        int value = value();
        String of = " of " + question;
        switch (random.nextInt(9)) {
            case 0 -> both("questionAt " + rank, () -> model.questionAt(rank), () -> contest.questionAt(rank));
            case 1 -> both("positionOf" + of, () -> model.positionOf(question), () -> contest.positionOf(question));
            case 2 -> both("weight" + of, () -> model.weight(question), () -> contest.weight(question));
            case 3 -> both("estimateCount" + of, () -> model.estimateCount(question),
                    () -> contest.estimateCount(question));
            case 4 -> both("estimator " + rank + of, () -> model.estimator(question, rank),
                    () -> contest.estimator(question, rank));
            case 5 -> both("coverage " + value + of, () -> model.coverage(question, value),
                    () -> contest.coverage(question, value));
            case 6 -> both("mostCovered" + of, () -> model.mostCovered(question), () -> contest.mostCovered(question));
            case 7 -> both("mostCoveredBySweep" + of, () -> model.mostCovered(question),
                    () -> contest.mostCoveredBySweep(question));
            default -> both("coveredValues" + of, () -> model.coveredValues(question),
                    () -> contest.coveredValues(question));
        }
    }

    private void askOfEstimates() {
        int player = player();
        int question = question();
        String of = " of " + player + " " + question;
        switch (random.nextInt(6)) {
            case 0 -> both("hasEstimate" + of, () -> model.hasEstimate(player, question),
                    () -> contest.hasEstimate(player, question));
            case 1 -> both("low" + of, () -> model.low(player, question), () -> contest.low(player, question));
            case 2 -> both("high" + of, () -> model.high(player, question), () -> contest.high(player, question));
            case 3 -> both("confidence" + of, () -> model.confidence(player, question),
                    () -> contest.confidence(player, question));
            case 4 -> both("stake" + of, () -> model.stake(player, question), () -> contest.stake(player, question));
            default -> both("winnings" + of, () -> model.winnings(player, question),
                    () -> contest.winnings(player, question));
        }
    }

    private void askOfAll() {
        int confidence = number(1, 10);
        int back = number(0, 5);
        switch (random.nextInt(13)) {
            case 0 -> both("playerCount", model::playerCount, contest::playerCount);
            case 1 -> both("houseCoins", model::houseCoins, contest::houseCoins);
            case 2 -> both("stakedCoins", model::stakedCoins, contest::stakedCoins);
            case 3 -> both("openCount", model::openCount, contest::openCount);
            case 4 -> both("settledQuestions", model::settledQuestions, contest::settledQuestions);
            case 5 -> both("recentTruth " + back, () -> model.recentTruth(back), () -> contest.recentTruth(back));
            case 6 -> both("bestCalibrated", model::bestCalibrated, contest::bestCalibrated);
            case 7 -> both("binSize " + confidence, () -> model.binSize(confidence),
                    () -> contest.binSize(confidence));
            case 8 -> both("binSizeByPlayers " + confidence, () -> model.binSize(confidence),
                    () -> contest.binSizeByPlayers(confidence));
            case 9 -> both("binHits " + confidence, () -> model.binHits(confidence),
                    () -> contest.binHits(confidence));
            case 10 -> both("binShare " + confidence, () -> model.binShare(confidence),
                    () -> contest.binShare(confidence));
            case 11 -> both("undoCount", model::undoCount, contest::undoCount);
            default -> both("isConsistent", () -> true, contest::isConsistent);
        }
    }
}
