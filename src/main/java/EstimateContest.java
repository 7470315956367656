import java.util.Arrays;
import java.util.NoSuchElementException;

/**
 * A contest of estimates: players bet on intervals, and questions in a queue are settled by true values.
 *
 * <p>Every row is made in a constructor and used again, so that no call makes anything but the exception that it throws.
 */
public final class EstimateContest {
    private static final int MAX_PLAYERS = 5;
    private static final int MAX_OPEN = 6;
    private static final int MAX_WEIGHT = 3;
    private static final int MAX_VALUE = 999;
    private static final int MAX_CONFIDENCE = 9;
    private static final int CERTAINTY = 10;
    private static final int MAX_STAKE = 20;
    private static final int FIRST_COINS = 100;
    private static final int DISTANCE_FACTOR = 20;
    private static final int RECENT_TRUTHS = 5;
    private static final int MAX_UNDO = 8;
    private static final int MAX_TEXT = 60;
    private static final int NONE = -1;

    private final Board board = new Board();
    private final Board saved = new Board();
    private final History history = new History();
    private final Coverage coverage = new Coverage();
    private final CommandText input = new CommandText();
    private final StringBuilder output = new StringBuilder();
    private boolean isSaved = false;
    private int errorPosition = NONE;
    private int failedCommand = NONE;

    public EstimateContest() {
    }

    public int addPlayer() throws IllegalStateException {
        refuseOn(board.joinFault());
        history.record(board);
        return board.join();
    }

    public int openQuestion(int weight) throws IllegalArgumentException, IllegalStateException {
        refuseOn(board.askFault(weight));
        history.record(board);
        return board.ask(weight);
    }

    public int estimate(int player, int question, int low, int high, int confidence, int stake)
            throws IndexOutOfBoundsException, NoSuchElementException, IllegalArgumentException,
            UnsupportedOperationException, IllegalStateException {
        refuseOn(board.betFault(player, question, low, high, confidence, stake));
        history.record(board);
        return board.bet(player, question, low, high, confidence, stake);
    }

    public int settle(int truth) throws IllegalArgumentException, NoSuchElementException {
        refuseOn(board.settleFault(truth));
        history.record(board);
        return board.settleFirst(truth);
    }

    public int postpone() throws NoSuchElementException {
        refuseOn(board.postponeFault());
        history.record(board);
        return board.postponeFirst();
    }

    public int withdraw(int player) throws IndexOutOfBoundsException, IllegalStateException {
        refuseOn(board.leaveFault(player));
        history.record(board);
        return board.leave(player);
    }

    public int playerCount() {
        return board.playerCount;
    }

    public int coins(int player) throws IndexOutOfBoundsException {
        return requirePlayer(player).coins;
    }

    public boolean hasWithdrawn(int player) throws IndexOutOfBoundsException {
        return requirePlayer(player).isOut;
    }

    public int houseCoins() {
        return board.house;
    }

    public int stakedCoins() {
        return board.sumOfStakes();
    }

    public int openCount() {
        return board.openCount;
    }

    public int questionAt(int position) throws NoSuchElementException {
        if (position < 0 || position >= board.openCount) {
            throw new NoSuchElementException("no such position");
        }
        return board.queue[position].number;
    }

    public int positionOf(int question) throws NoSuchElementException {
        int position = board.placeOf(question);
        if (position == NONE) {
            throw new NoSuchElementException("no such open question");
        }
        return position;
    }

    public int weight(int question) throws NoSuchElementException {
        return requireQuestion(question).weight;
    }

    public int estimateCount(int question) throws NoSuchElementException {
        return requireQuestion(question).count;
    }

    public int estimator(int question, int rank) throws NoSuchElementException, IndexOutOfBoundsException {
        Question asked = requireQuestion(question);
        if (rank < 0 || rank >= asked.count) {
            throw new IndexOutOfBoundsException("no such rank");
        }
        return asked.estimates[rank].player;
    }

    public boolean hasEstimate(int player, int question) throws IndexOutOfBoundsException, NoSuchElementException {
        requirePlayer(player);
        return requireQuestion(question).rankOf(player) != NONE;
    }

    public int low(int player, int question) throws IndexOutOfBoundsException, NoSuchElementException {
        return requireEstimate(player, question).low;
    }

    public int high(int player, int question) throws IndexOutOfBoundsException, NoSuchElementException {
        return requireEstimate(player, question).high;
    }

    public int confidence(int player, int question) throws IndexOutOfBoundsException, NoSuchElementException {
        return requireEstimate(player, question).confidence;
    }

    public int stake(int player, int question) throws IndexOutOfBoundsException, NoSuchElementException {
        return requireEstimate(player, question).stake;
    }

    public int winnings(int player, int question) throws IndexOutOfBoundsException, NoSuchElementException {
        return requireEstimate(player, question).prize();
    }

    public int coverage(int question, int value) throws NoSuchElementException, IllegalArgumentException {
        Question asked = requireQuestion(question);
        if (!isValue(value)) {
            throw new IllegalArgumentException("the value is out of range");
        }
        return asked.countCovering(value);
    }

    public int mostCovered(int question) throws NoSuchElementException {
        return coverage.mostByBitSets(requireEstimatedQuestion(question));
    }

    public int mostCoveredBySweep(int question) throws NoSuchElementException {
        return coverage.mostBySweep(requireEstimatedQuestion(question));
    }

    public int coveredValues(int question) throws NoSuchElementException {
        return coverage.countCovered(requireQuestion(question));
    }

    public int settledQuestions() {
        return board.settledCount;
    }

    public int recentTruth(int back) throws NoSuchElementException {
        if (back < 0 || back >= Math.min(board.settledCount, RECENT_TRUTHS)) {
            throw new NoSuchElementException("no such settled question");
        }
        return board.truths[back];
    }

    public int settledEstimates(int player) throws IndexOutOfBoundsException {
        return requirePlayer(player).bins.totalSize();
    }

    public int hits(int player) throws IndexOutOfBoundsException {
        return requirePlayer(player).bins.totalHits();
    }

    public int score(int player) throws IndexOutOfBoundsException {
        return requirePlayer(player).points;
    }

    public double meanScore(int player) throws IndexOutOfBoundsException, ArithmeticException {
        Player judged = requirePlayer(player);
        int count = judged.bins.totalSize();
        if (count == 0) {
            throw new ArithmeticException("no settled estimates");
        }
        return (double) judged.points / (double) count;
    }

    public int calibrationError(int player) throws IndexOutOfBoundsException {
        return requirePlayer(player).bins.totalError();
    }

    public int bestCalibrated() throws NoSuchElementException {
        int best = board.leastError();
        if (best == NONE) {
            throw new NoSuchElementException("no player has a settled estimate");
        }
        return best;
    }

    public int playerByScore(int rank) throws NoSuchElementException {
        for (int i = 0; i < board.playerCount; i++) {
            if (board.rankByScore(i) == rank) {
                return i;
            }
        }
        throw new NoSuchElementException("no such rank");
    }

    public int binSize(int confidence) throws IllegalArgumentException {
        requireConfidence(confidence);
        return board.bins.sizeOf(confidence);
    }

    public int binSizeByPlayers(int confidence) throws IllegalArgumentException {
        requireConfidence(confidence);
        return board.sumOfPlayersBins(confidence);
    }

    public int binHits(int confidence) throws IllegalArgumentException {
        requireConfidence(confidence);
        return board.bins.hitsOf(confidence);
    }

    public float binShare(int confidence) throws IllegalArgumentException, ArithmeticException {
        requireConfidence(confidence);
        int size = board.bins.sizeOf(confidence);
        if (size == 0) {
            throw new ArithmeticException("no settled estimates of this confidence");
        }
        return (float) board.bins.hitsOf(confidence) / (float) size;
    }

    public boolean isConsistent() {
        return board.keepsCoins() && mostCoveredAgree() && board.binsAgree();
    }

    public int feed(char character) throws IllegalStateException {
        if (input.isFull()) {
            throw new IllegalStateException("the input buffer is full");
        }
        return input.append(character);
    }

    public int runCommands() throws IllegalArgumentException, UnsupportedOperationException {
        int commands = input.countCommands();
        if (commands == NONE) {
            errorPosition = input.position();
            input.clear();
            throw new IllegalArgumentException("the text is malformed");
        }
        history.draft(board);
        int failed = carryOut(commands);
        input.clear();
        if (failed != NONE) {
            history.takeBack(board);
            failedCommand = failed;
            throw new UnsupportedOperationException("a command cannot be carried out");
        }
        history.keep();
        return commands;
    }

    public int errorPosition() throws NoSuchElementException {
        if (errorPosition == NONE) {
            throw new NoSuchElementException("no text was malformed");
        }
        return errorPosition;
    }

    public int failedCommand() throws NoSuchElementException {
        if (failedCommand == NONE) {
            throw new NoSuchElementException("no command failed");
        }
        return failedCommand;
    }

    public int writeQuestion(int question) throws NoSuchElementException {
        Question asked = requireQuestion(question);
        output.setLength(0);
        output.append('q').append(asked.number).append('w').append(asked.weight);
        for (int i = 0; i < asked.count; i++) {
            writeEstimate(asked.estimates[i]);
        }
        return output.length();
    }

    public char outputChar(int index) throws IndexOutOfBoundsException {
        if (index < 0 || index >= output.length()) {
            throw new IndexOutOfBoundsException("no such character");
        }
        return output.charAt(index);
    }

    public int undoCount() {
        return history.count;
    }

    public int undo() throws IllegalStateException {
        if (history.count == 0) {
            throw new IllegalStateException("no call can be undone");
        }
        history.stepBack(board);
        return history.count;
    }

    public int save() {
        saved.takeFrom(board);
        isSaved = true;
        return board.openCount;
    }

    public int restore() throws IllegalStateException {
        if (!isSaved) {
            throw new IllegalStateException("no state was saved");
        }
        board.takeFrom(saved);
        history.clear();
        return board.openCount;
    }

    private static void refuseOn(Fault fault) {
        switch (fault) {
            case NO_PLAYER:
                throw new IndexOutOfBoundsException("no such player");
            case NO_QUESTION:
                throw new NoSuchElementException("no such open question");
            case OUT_OF_RANGE:
                throw new IllegalArgumentException("a number is out of range");
            case IS_OUT:
                throw new UnsupportedOperationException("the player has withdrawn");
            case NOT_NOW:
                throw new IllegalStateException("the state does not allow it");
            default:
                break;
        }
    }

    private static boolean isValue(int value) {
        return value >= 0 && value <= MAX_VALUE;
    }

    private static boolean isConfidence(int confidence) {
        return confidence >= 1 && confidence <= MAX_CONFIDENCE;
    }

    private static void requireConfidence(int confidence) {
        if (!isConfidence(confidence)) {
            throw new IllegalArgumentException("the confidence is out of range");
        }
    }

    private Player requirePlayer(int player) {
        if (!board.hasPlayer(player)) {
            throw new IndexOutOfBoundsException("no such player");
        }
        return board.players[player];
    }

    private Question requireQuestion(int question) {
        int position = board.placeOf(question);
        if (position == NONE) {
            throw new NoSuchElementException("no such open question");
        }
        return board.queue[position];
    }

    private Question requireEstimatedQuestion(int question) {
        Question asked = requireQuestion(question);
        if (asked.count == 0) {
            throw new NoSuchElementException("the question has no estimates");
        }
        return asked;
    }

    private Estimate requireEstimate(int player, int question) {
        requirePlayer(player);
        Question asked = requireQuestion(question);
        int rank = asked.rankOf(player);
        if (rank == NONE) {
            throw new NoSuchElementException("the player has made no estimate of the question");
        }
        return asked.estimates[rank];
    }

    private boolean mostCoveredAgree() {
        for (int i = 0; i < board.openCount; i++) {
            Question asked = board.queue[i];
            if (coverage.mostByBitSets(asked) != coverage.mostBySweep(asked)) {
                return false;
            }
        }
        return true;
    }

    /** Returns the index of the command that fails, or NONE. */
    private int carryOut(int commands) {
        input.rewind();
        for (int i = 0; i < commands; i++) {
            Command command = input.readCommand();
            if (command == null || faultOf(command) != Fault.NONE) {
                return i;
            }
            apply(command);
            input.readSign(CommandText.SEPARATOR);
        }
        return NONE;
    }

    private Fault faultOf(Command command) {
        switch (command) {
            case PLAYER:
                return board.joinFault();
            case OPEN:
                return board.askFault(input.number(0));
            case BET:
                return board.betFault(input.number(0), input.number(1), input.number(2), input.number(3),
                        input.number(4), input.number(5));
            case SETTLE:
                return board.settleFault(input.number(0));
            case LATER:
                return board.postponeFault();
            default:
                return board.leaveFault(input.number(0));
        }
    }

    private void apply(Command command) {
        switch (command) {
            case PLAYER:
                board.join();
                break;
            case OPEN:
                board.ask(input.number(0));
                break;
            case BET:
                board.bet(input.number(0), input.number(1), input.number(2), input.number(3),
                        input.number(4), input.number(5));
                break;
            case SETTLE:
                board.settleFirst(input.number(0));
                break;
            case LATER:
                board.postponeFirst();
                break;
            default:
                board.leave(input.number(0));
                break;
        }
    }

    private void writeEstimate(Estimate estimate) {
        output.append(' ').append(estimate.player).append(':').append(estimate.low);
        output.append('-').append(estimate.high).append('c').append(estimate.confidence);
    }

    /** Why a change is refused; calls throw an exception for it, a command only counts as failed. */
    private enum Fault {
        NONE, NO_PLAYER, NO_QUESTION, OUT_OF_RANGE, IS_OUT, NOT_NOW
    }

    /** In a form, a digit stands for a number of one to so many digits, any other sign for itself. */
    private enum Command {
        PLAYER("player"),
        OPEN("open 1"),
        BET("bet 1 2 3-3 1 2"),
        SETTLE("settle 3"),
        LATER("later"),
        OUT("out 1");

        private final String form;

        Command(String form) {
            this.form = form;
        }
    }

    private static final class Estimate {
        private int player;
        private int low;
        private int high;
        private int confidence;
        private int stake;

        void fill(int newPlayer, int newLow, int newHigh, int newConfidence, int newStake) {
            player = newPlayer;
            low = newLow;
            high = newHigh;
            confidence = newConfidence;
            stake = newStake;
        }

        void takeFrom(Estimate other) {
            fill(other.player, other.low, other.high, other.confidence, other.stake);
        }

        boolean covers(int value) {
            return low <= value && value <= high;
        }

        /** The test keeps the divisor from 0, which an unused estimate would bring. */
        int prize() {
            return isConfidence(confidence) ? stake * (CERTAINTY - confidence) / confidence : 0;
        }

        int pointsFor(int truth) {
            int width = high - low;
            return isConfidence(confidence)
                    ? width + DISTANCE_FACTOR * distanceTo(truth) / (CERTAINTY - confidence)
                    : width;
        }

        private int distanceTo(int truth) {
            return Math.max(0, Math.max(low - truth, truth - high));
        }
    }

    private static final class Question {
        private final Estimate[] estimates = new Estimate[MAX_PLAYERS];
        private int number;
        private int weight;
        private int count;

        Question() {
            for (int i = 0; i < MAX_PLAYERS; i++) {
                estimates[i] = new Estimate();
            }
        }

        void start(int newNumber, int newWeight) {
            number = newNumber;
            weight = newWeight;
            count = 0;
        }

        void takeFrom(Question other) {
            start(other.number, other.weight);
            count = other.count;
            for (int i = 0; i < count; i++) {
                estimates[i].takeFrom(other.estimates[i]);
            }
        }

        int rankOf(int player) {
            for (int i = 0; i < count; i++) {
                if (estimates[i].player == player) {
                    return i;
                }
            }
            return NONE;
        }

        /** A player's one estimate always finds room; the test keeps the index inside its row all the same. */
        void addEstimate(int player, int low, int high, int confidence, int stake) {
            if (count < MAX_PLAYERS) {
                estimates[count].fill(player, low, high, confidence, stake);
                count++;
            }
        }

        /** The removed estimate goes behind the others, where it is used again. */
        void removeEstimate(int rank) {
            Estimate removed = estimates[rank];
            for (int i = rank + 1; i < count; i++) {
                estimates[i - 1] = estimates[i];
            }
            estimates[count - 1] = removed;
            count--;
        }

        int countCovering(int value) {
            int covering = 0;
            for (int i = 0; i < count; i++) {
                if (estimates[i].covers(value)) {
                    covering++;
                }
            }
            return covering;
        }

        int sumOfStakes() {
            int sum = 0;
            for (int i = 0; i < count; i++) {
                sum += estimates[i].stake;
            }
            return sum;
        }
    }

    /** The settled estimates by confidence; index 0 stays unused. */
    private static final class Bins {
        private final int[] sizes = new int[MAX_CONFIDENCE + 1];
        private final int[] hitCounts = new int[MAX_CONFIDENCE + 1];

        void clear() {
            Arrays.fill(sizes, 0);
            Arrays.fill(hitCounts, 0);
        }

        void takeFrom(Bins other) {
            System.arraycopy(other.sizes, 0, sizes, 0, sizes.length);
            System.arraycopy(other.hitCounts, 0, hitCounts, 0, hitCounts.length);
        }

        void add(int confidence, boolean hit) {
            if (!isConfidence(confidence)) {
                return;
            }
            sizes[confidence]++;
            if (hit) {
                hitCounts[confidence]++;
            }
        }

        int sizeOf(int confidence) {
            return isConfidence(confidence) ? sizes[confidence] : 0;
        }

        int hitsOf(int confidence) {
            return isConfidence(confidence) ? hitCounts[confidence] : 0;
        }

        int totalSize() {
            return sumOf(sizes);
        }

        int totalHits() {
            return sumOf(hitCounts);
        }

        int totalError() {
            int total = 0;
            for (int c = 1; c <= MAX_CONFIDENCE; c++) {
                total += Math.abs(CERTAINTY * hitCounts[c] - c * sizes[c]);
            }
            return total;
        }

        private static int sumOf(int[] counts) {
            int sum = 0;
            for (int count : counts) {
                sum += count;
            }
            return sum;
        }
    }

    private static final class Player {
        private final Bins bins = new Bins();
        private int coins;
        private int points;
        private boolean isOut;

        /** An undone player may have left numbers behind. */
        void start() {
            bins.clear();
            coins = FIRST_COINS;
            points = 0;
            isOut = false;
        }

        void takeFrom(Player other) {
            bins.takeFrom(other.bins);
            coins = other.coins;
            points = other.points;
            isOut = other.isOut;
        }

        /** Ranks by points, then by hits; equal players answer false both ways. */
        boolean isBetterThan(Player other) {
            if (points != other.points) {
                return points < other.points;
            }
            return bins.totalHits() > other.bins.totalHits();
        }
    }

    /** All that undo and restore bring back. A method that changes it relies on its fault method having answered NONE. */
    private static final class Board {
        private final Player[] players = new Player[MAX_PLAYERS];
        private final Question[] queue = new Question[MAX_OPEN];
        private final Bins bins = new Bins();
        private final int[] truths = new int[RECENT_TRUTHS];
        private int playerCount;
        private int openCount;
        private int nextNumber;
        private int settledCount;
        private int house;

        Board() {
            for (int i = 0; i < MAX_PLAYERS; i++) {
                players[i] = new Player();
            }
            for (int i = 0; i < MAX_OPEN; i++) {
                queue[i] = new Question();
            }
        }

        void takeFrom(Board other) {
            playerCount = other.playerCount;
            openCount = other.openCount;
            nextNumber = other.nextNumber;
            settledCount = other.settledCount;
            house = other.house;
            bins.takeFrom(other.bins);
            System.arraycopy(other.truths, 0, truths, 0, truths.length);
            for (int i = 0; i < playerCount; i++) {
                players[i].takeFrom(other.players[i]);
            }
            for (int i = 0; i < openCount; i++) {
                queue[i].takeFrom(other.queue[i]);
            }
        }

        boolean hasPlayer(int player) {
            return player >= 0 && player < playerCount;
        }

        int placeOf(int number) {
            for (int i = 0; i < openCount; i++) {
                if (queue[i].number == number) {
                    return i;
                }
            }
            return NONE;
        }

        Fault joinFault() {
            return playerCount < MAX_PLAYERS ? Fault.NONE : Fault.NOT_NOW;
        }

        int join() {
            players[playerCount].start();
            playerCount++;
            return playerCount - 1;
        }

        Fault askFault(int weight) {
            if (weight < 1 || weight > MAX_WEIGHT) {
                return Fault.OUT_OF_RANGE;
            }
            return openCount < MAX_OPEN ? Fault.NONE : Fault.NOT_NOW;
        }

        int ask(int weight) {
            queue[openCount].start(nextNumber, weight);
            openCount++;
            nextNumber++;
            return nextNumber - 1;
        }

        Fault betFault(int player, int number, int low, int high, int confidence, int stake) {
            if (!hasPlayer(player)) {
                return Fault.NO_PLAYER;
            }
            int place = placeOf(number);
            if (place == NONE) {
                return Fault.NO_QUESTION;
            }
            if (!isValue(low) || !isValue(high) || low > high || !isConfidence(confidence)
                    || stake < 1 || stake > MAX_STAKE) {
                return Fault.OUT_OF_RANGE;
            }
            if (players[player].isOut) {
                return Fault.IS_OUT;
            }
            if (queue[place].rankOf(player) != NONE || players[player].coins < stake) {
                return Fault.NOT_NOW;
            }
            return Fault.NONE;
        }

        int bet(int player, int number, int low, int high, int confidence, int stake) {
            int place = placeOf(number);
            if (place != NONE) {
                queue[place].addEstimate(player, low, high, confidence, stake);
                players[player].coins -= stake;
            }
            return players[player].coins;
        }

        Fault settleFault(int truth) {
            return isValue(truth) ? postponeFault() : Fault.OUT_OF_RANGE;
        }

        int settleFirst(int truth) {
            Question settled = queue[0];
            int hits = 0;
            for (int i = 0; i < settled.count; i++) {
                if (payOut(settled.estimates[i], settled.weight, truth)) {
                    hits++;
                }
            }
            moveFirstToEnd();
            openCount--;
            keepTruth(truth);
            return hits;
        }

        /** An estimate never outlives its player; the test keeps the index inside its row all the same. */
        private boolean payOut(Estimate estimate, int weight, int truth) {
            if (!hasPlayer(estimate.player)) {
                return false;
            }
            Player player = players[estimate.player];
            boolean hit = estimate.covers(truth);
            if (hit) {
                player.coins += estimate.stake + estimate.prize();
                house -= estimate.prize();
            } else {
                house += estimate.stake;
            }
            player.points += weight * estimate.pointsFor(truth);
            player.bins.add(estimate.confidence, hit);
            bins.add(estimate.confidence, hit);
            return hit;
        }

        private void keepTruth(int truth) {
            for (int i = RECENT_TRUTHS - 1; i > 0; i--) {
                truths[i] = truths[i - 1];
            }
            truths[0] = truth;
            settledCount++;
        }

        private void moveFirstToEnd() {
            Question first = queue[0];
            for (int i = 1; i < openCount; i++) {
                queue[i - 1] = queue[i];
            }
            queue[openCount - 1] = first;
        }

        Fault postponeFault() {
            return openCount > 0 ? Fault.NONE : Fault.NO_QUESTION;
        }

        int postponeFirst() {
            moveFirstToEnd();
            return queue[0].number;
        }

        Fault leaveFault(int player) {
            if (!hasPlayer(player)) {
                return Fault.NO_PLAYER;
            }
            return players[player].isOut ? Fault.NOT_NOW : Fault.NONE;
        }

        int leave(int player) {
            int removed = 0;
            for (int i = 0; i < openCount; i++) {
                int rank = queue[i].rankOf(player);
                if (rank != NONE) {
                    players[player].coins += queue[i].estimates[rank].stake;
                    queue[i].removeEstimate(rank);
                    removed++;
                }
            }
            players[player].isOut = true;
            return removed;
        }

        int sumOfStakes() {
            int sum = 0;
            for (int i = 0; i < openCount; i++) {
                sum += queue[i].sumOfStakes();
            }
            return sum;
        }

        int sumOfPlayersBins(int confidence) {
            int sum = 0;
            for (int i = 0; i < playerCount; i++) {
                sum += players[i].bins.sizeOf(confidence);
            }
            return sum;
        }

        int leastError() {
            int best = NONE;
            int bestError = 0;
            for (int i = 0; i < playerCount; i++) {
                int error = players[i].bins.totalError();
                if (players[i].bins.totalSize() > 0 && (best == NONE || error < bestError)) {
                    best = i;
                    bestError = error;
                }
            }
            return best;
        }

        /** A player stands behind all better ones, and behind the equal ones of a lesser index. */
        int rankByScore(int player) {
            int rank = 0;
            for (int i = 0; i < playerCount; i++) {
                boolean precedes = i < player
                        ? !players[player].isBetterThan(players[i])
                        : players[i].isBetterThan(players[player]);
                if (precedes) {
                    rank++;
                }
            }
            return rank;
        }

        boolean keepsCoins() {
            int sum = house + sumOfStakes();
            for (int i = 0; i < playerCount; i++) {
                sum += players[i].coins;
            }
            return sum == FIRST_COINS * playerCount;
        }

        boolean binsAgree() {
            for (int c = 1; c <= MAX_CONFIDENCE; c++) {
                if (bins.sizeOf(c) != sumOfPlayersBins(c)) {
                    return false;
                }
            }
            return true;
        }
    }

    /** A ring with one slot to spare: a draft that fails must not cost the oldest recorded state. */
    private static final class History {
        private static final int SLOTS = MAX_UNDO + 1;
        private final Board[] slots = new Board[SLOTS];
        private int next;
        private int count;

        History() {
            for (int i = 0; i < SLOTS; i++) {
                slots[i] = new Board();
            }
        }

        void draft(Board board) {
            slots[next].takeFrom(board);
        }

        void keep() {
            next = next + 1 < SLOTS ? next + 1 : 0;
            count = Math.min(count + 1, MAX_UNDO);
        }

        void record(Board board) {
            draft(board);
            keep();
        }

        void takeBack(Board board) {
            board.takeFrom(slots[next]);
        }

        void stepBack(Board board) {
            next = next > 0 ? next - 1 : SLOTS - 1;
            count--;
            takeBack(board);
        }

        void clear() {
            count = 0;
        }
    }

    /** Finds the most covered value in two ways, with rows that serve every question. */
    private static final class Coverage {
        private static final int BITS = 64;
        private static final int WORDS = MAX_VALUE / BITS + 1;
        /** Row k is the set of the values that at least k intervals contain; row 0 stays unused. */
        private final long[][] atLeast = new long[MAX_PLAYERS + 1][WORDS];
        private final int[] lows = new int[MAX_PLAYERS];
        private final int[] highs = new int[MAX_PLAYERS];

        /** Answers NONE for a question without estimates, as mostBySweep does. */
        int mostByBitSets(Question question) {
            fillSets(question);
            for (int level = question.count; level > 0; level--) {
                int value = leastOf(level);
                if (value != NONE) {
                    return value;
                }
            }
            return NONE;
        }

        int countCovered(Question question) {
            fillSets(question);
            int covered = 0;
            for (int word = 0; word < WORDS; word++) {
                covered += Long.bitCount(atLeast[1][word]);
            }
            return covered;
        }

        /** The number of intervals grows at low values only, so the least best value is a low value. */
        int mostBySweep(Question question) {
            for (int i = 0; i < question.count; i++) {
                insertSorted(lows, i, question.estimates[i].low);
                insertSorted(highs, i, question.estimates[i].high);
            }
            int best = NONE;
            int most = 0;
            int ended = 0;
            for (int begun = 0; begun < question.count; begun++) {
                while (ended < question.count && highs[ended] < lows[begun]) {
                    ended++;
                }
                if (begun + 1 - ended > most) {
                    most = begun + 1 - ended;
                    best = lows[begun];
                }
            }
            return best;
        }

        private void fillSets(Question question) {
            for (int level = 1; level <= MAX_PLAYERS; level++) {
                Arrays.fill(atLeast[level], 0L);
            }
            for (int i = 0; i < question.count; i++) {
                addInterval(question.estimates[i], i + 1);
            }
        }

        /** Goes down the levels, so that an interval is not counted on top of itself. */
        private void addInterval(Estimate estimate, int topLevel) {
            for (int word = 0; word < WORDS; word++) {
                long bits = intervalBits(estimate.low, estimate.high, word);
                for (int level = topLevel; level > 1; level--) {
                    atLeast[level][word] |= atLeast[level - 1][word] & bits;
                }
                atLeast[1][word] |= bits;
            }
        }

        private static long intervalBits(int low, int high, int word) {
            int first = Math.max(low - word * BITS, 0);
            int last = Math.min(high - word * BITS, BITS - 1);
            return first > last ? 0L : (-1L << first) & (-1L >>> (BITS - 1 - last));
        }

        private int leastOf(int level) {
            for (int word = 0; word < WORDS; word++) {
                if (atLeast[level][word] != 0L) {
                    return word * BITS + Long.numberOfTrailingZeros(atLeast[level][word]);
                }
            }
            return NONE;
        }

        private static void insertSorted(int[] row, int count, int value) {
            int place = count;
            for (; place > 0 && row[place - 1] > value; place--) {
                row[place] = row[place - 1];
            }
            row[place] = value;
        }
    }

    /** The input buffer and a reader of it; a reader that fails stays at the character that it could not take. */
    private static final class CommandText {
        private static final char SEPARATOR = ';';
        private static final int MAX_NUMBERS = 6;
        private static final Command[] COMMANDS = Command.values();
        private final char[] signs = new char[MAX_TEXT];
        private final int[] numbers = new int[MAX_NUMBERS];
        private int length;
        private int place;
        private int numberCount;

        boolean isFull() {
            return length >= MAX_TEXT;
        }

        int append(char sign) {
            signs[length] = sign;
            length++;
            return length;
        }

        void clear() {
            length = 0;
        }

        void rewind() {
            place = 0;
        }

        int position() {
            return place;
        }

        int number(int index) {
            return index >= 0 && index < numberCount ? numbers[index] : 0;
        }

        /** Returns NONE if the text is malformed; the place is the error position then. */
        int countCommands() {
            rewind();
            for (int commands = 1; commands <= MAX_TEXT; commands++) {
                if (readCommand() == null) {
                    return NONE;
                }
                if (place == length) {
                    return commands;
                }
                if (!readSign(SEPARATOR)) {
                    return NONE;
                }
            }
            return NONE;
        }

        /** Returns null if no command stands here; the form that gets farthest tells what cannot go on. */
        Command readCommand() {
            int start = place;
            int farthest = start;
            for (int i = 0; i < COMMANDS.length; i++) {
                place = start;
                if (readForm(COMMANDS[i].form)) {
                    return COMMANDS[i];
                }
                farthest = Math.max(farthest, place);
            }
            place = farthest;
            return null;
        }

        boolean readSign(char sign) {
            if (place >= length || signs[place] != sign) {
                return false;
            }
            place++;
            return true;
        }

        private boolean readForm(String form) {
            numberCount = 0;
            for (int i = 0; i < form.length(); i++) {
                char sign = form.charAt(i);
                boolean isRead = isDigit(sign) ? readNumber(sign - '0') : readSign(sign);
                if (!isRead) {
                    return false;
                }
            }
            return true;
        }

        private boolean readNumber(int maxDigits) {
            int number = 0;
            int digits = 0;
            while (digits < maxDigits && place < length && isDigit(signs[place])) {
                number = number * 10 + (signs[place] - '0');
                digits++;
                place++;
            }
            if (digits == 0 || numberCount >= MAX_NUMBERS) {
                return false;
            }
            numbers[numberCount] = number;
            numberCount++;
            return true;
        }

        private static boolean isDigit(char sign) {
            return sign >= '0' && sign <= '9';
        }
    }
}
