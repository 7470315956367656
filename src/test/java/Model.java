import java.util.ArrayList;
import java.util.Comparator;
import java.util.LinkedList;
import java.util.List;
import java.util.NoSuchElementException;
import java.util.regex.Matcher;
import java.util.regex.Pattern;
import java.util.stream.Collectors;
import java.util.stream.IntStream;

/**
 * The document told once more, as slowly and as plainly as can be, for the comparison of random runs. It keeps every bet
 * for ever and counts anew at each call; nothing of it looks like the class that it is compared with.
 */
final class Model {
    private record Bet(int player, int question, int low, int high, int confidence, int stake) {
        boolean contains(int value) {
            return low <= value && value <= high;
        }

        int winnings() {
            return (int) Math.floor((double) (stake * (10 - confidence)) / confidence + 1e-9);
        }
    }

    private record Settled(int question, int truth) {
    }

    private record State(List<Integer> out, int players, List<Integer> weights, List<Integer> queue, List<Bet> bets,
            List<Settled> settled) {
        State() {
            this(List.of(), 0, List.of(), List.of(), List.of(), List.of());
        }
    }

    private State state = new State();
    private State saved = null;
    private final LinkedList<State> past = new LinkedList<>();
    private String buffer = "";
    private String output = "";
    private Integer errorPosition = null;
    private Integer failedCommand = null;

    int addPlayer() {
        return recorded(this::plainAddPlayer);
    }

    int openQuestion(int weight) {
        return recorded(() -> plainOpenQuestion(weight));
    }

    int estimate(int player, int question, int low, int high, int confidence, int stake) {
        return recorded(() -> plainEstimate(new Bet(player, question, low, high, confidence, stake)));
    }

    int settle(int truth) {
        return recorded(() -> plainSettle(truth));
    }

    int postpone() {
        return recorded(this::plainPostpone);
    }

    int withdraw(int player) {
        return recorded(() -> plainWithdraw(player));
    }

    private interface Change {
        int make();
    }

    private int recorded(Change change) {
        State before = state;
        int answer = change.make();
        past.addLast(before);
        if (past.size() > 8) {
            past.removeFirst();
        }
        return answer;
    }

    private int plainAddPlayer() {
        if (state.players == 5) {
            throw new IllegalStateException();
        }
        state = new State(state.out, state.players + 1, state.weights, state.queue, state.bets, state.settled);
        return state.players - 1;
    }

    private int plainOpenQuestion(int weight) {
        if (weight < 1 || weight > 3) {
            throw new IllegalArgumentException();
        }
        if (state.queue.size() == 6) {
            throw new IllegalStateException();
        }
        int number = state.weights.size();
        state = new State(state.out, state.players, with(state.weights, weight), with(state.queue, number), state.bets,
                state.settled);
        return number;
    }

    private int plainEstimate(Bet bet) {
        player(bet.player);
        open(bet.question);
        boolean fits = bet.low >= 0 && bet.low <= bet.high && bet.high <= 999 && bet.confidence >= 1
                && bet.confidence <= 9 && bet.stake >= 1 && bet.stake <= 20;
        if (!fits) {
            throw new IllegalArgumentException();
        }
        if (state.out.contains(bet.player)) {
            throw new UnsupportedOperationException();
        }
        if (hasEstimate(bet.player, bet.question) || coins(bet.player) < bet.stake) {
            throw new IllegalStateException();
        }
        state = new State(state.out, state.players, state.weights, state.queue, with(state.bets, bet), state.settled);
        return coins(bet.player);
    }

    private int plainSettle(int truth) {
        value(truth);
        if (state.queue.isEmpty()) {
            throw new NoSuchElementException();
        }
        int question = state.queue.get(0);
        state = new State(state.out, state.players, state.weights, without(state.queue, question), state.bets,
                with(state.settled, new Settled(question, truth)));
        return (int) betsOf(question).stream().filter(bet -> bet.contains(truth)).count();
    }

    private int plainPostpone() {
        if (state.queue.isEmpty()) {
            throw new NoSuchElementException();
        }
        int first = state.queue.get(0);
        state = new State(state.out, state.players, state.weights, with(without(state.queue, first), first), state.bets,
                state.settled);
        return state.queue.get(0);
    }

    private int plainWithdraw(int player) {
        player(player);
        if (state.out.contains(player)) {
            throw new IllegalStateException();
        }
        List<Bet> kept = state.bets.stream()
                .filter(bet -> bet.player != player || !state.queue.contains(bet.question)).toList();
        int removed = state.bets.size() - kept.size();
        state = new State(with(state.out, player), state.players, state.weights, state.queue, kept, state.settled);
        return removed;
    }

    private static <T> List<T> with(List<T> list, T item) {
        List<T> longer = new ArrayList<>(list);
        longer.add(item);
        return List.copyOf(longer);
    }

    private static List<Integer> without(List<Integer> list, int item) {
        return list.stream().filter(one -> one != item).toList();
    }

    private void player(int player) {
        if (player < 0 || player >= state.players) {
            throw new IndexOutOfBoundsException();
        }
    }

    private void open(int question) {
        if (!state.queue.contains(question)) {
            throw new NoSuchElementException();
        }
    }

    private static void value(int value) {
        if (value < 0 || value > 999) {
            throw new IllegalArgumentException();
        }
    }

    private static void level(int confidence) {
        if (confidence < 1 || confidence > 9) {
            throw new IllegalArgumentException();
        }
    }

    private List<Bet> betsOf(int question) {
        return state.bets.stream().filter(bet -> bet.question == question).toList();
    }

    private Bet bet(int player, int question) {
        player(player);
        open(question);
        return betsOf(question).stream().filter(bet -> bet.player == player).findFirst().orElseThrow();
    }

    private Integer truthOf(int question) {
        return state.settled.stream().filter(one -> one.question == question).map(Settled::truth).findFirst()
                .orElse(null);
    }

    private List<Bet> settledBets() {
        return state.bets.stream().filter(bet -> truthOf(bet.question) != null).toList();
    }

    private List<Bet> settledBets(int player) {
        player(player);
        return settledBets().stream().filter(bet -> bet.player == player).toList();
    }

    private boolean isHit(Bet bet) {
        return bet.contains(truthOf(bet.question));
    }

    int playerCount() {
        return state.players;
    }

    int coins(int player) {
        player(player);
        int coins = 100;
        for (Bet bet : state.bets) {
            if (bet.player == player) {
                coins -= bet.stake;
                if (truthOf(bet.question) != null && isHit(bet)) {
                    coins += bet.stake + bet.winnings();
                }
            }
        }
        return coins;
    }

    boolean hasWithdrawn(int player) {
        player(player);
        return state.out.contains(player);
    }

    int houseCoins() {
        return settledBets().stream().mapToInt(bet -> isHit(bet) ? -bet.winnings() : bet.stake).sum();
    }

    int stakedCoins() {
        return state.bets.stream().filter(bet -> truthOf(bet.question) == null).mapToInt(Bet::stake).sum();
    }

    int openCount() {
        return state.queue.size();
    }

    int questionAt(int position) {
        if (position < 0 || position >= state.queue.size()) {
            throw new NoSuchElementException();
        }
        return state.queue.get(position);
    }

    int positionOf(int question) {
        open(question);
        return state.queue.indexOf(question);
    }

    int weight(int question) {
        open(question);
        return state.weights.get(question);
    }

    int estimateCount(int question) {
        open(question);
        return betsOf(question).size();
    }

    int estimator(int question, int rank) {
        open(question);
        if (rank < 0 || rank >= betsOf(question).size()) {
            throw new IndexOutOfBoundsException();
        }
        return betsOf(question).get(rank).player;
    }

    boolean hasEstimate(int player, int question) {
        player(player);
        open(question);
        return betsOf(question).stream().anyMatch(bet -> bet.player == player);
    }

    int low(int player, int question) {
        return bet(player, question).low;
    }

    int high(int player, int question) {
        return bet(player, question).high;
    }

    int confidence(int player, int question) {
        return bet(player, question).confidence;
    }

    int stake(int player, int question) {
        return bet(player, question).stake;
    }

    int winnings(int player, int question) {
        return bet(player, question).winnings();
    }

    int coverage(int question, int value) {
        open(question);
        value(value);
        return (int) betsOf(question).stream().filter(bet -> bet.contains(value)).count();
    }

    int mostCovered(int question) {
        open(question);
        if (betsOf(question).isEmpty()) {
            throw new NoSuchElementException();
        }
        int best = 0;
        for (int value = 1; value <= 999; value++) {
            if (coverage(question, value) > coverage(question, best)) {
                best = value;
            }
        }
        return best;
    }

    int coveredValues(int question) {
        open(question);
        return (int) IntStream.rangeClosed(0, 999).filter(value -> coverage(question, value) > 0).count();
    }

    int settledQuestions() {
        return state.settled.size();
    }

    int recentTruth(int back) {
        if (back < 0 || back > 4 || back >= state.settled.size()) {
            throw new NoSuchElementException();
        }
        return state.settled.get(state.settled.size() - 1 - back).truth;
    }

    int settledEstimates(int player) {
        return settledBets(player).size();
    }

    int hits(int player) {
        return (int) settledBets(player).stream().filter(this::isHit).count();
    }

    int score(int player) {
        int score = 0;
        for (Bet bet : settledBets(player)) {
            int truth = truthOf(bet.question);
            int distance = truth < bet.low ? bet.low - truth : truth > bet.high ? truth - bet.high : 0;
            int quotient = 20 * distance / (10 - bet.confidence);
            score += state.weights.get(bet.question) * (bet.high - bet.low + quotient);
        }
        return score;
    }

    double meanScore(int player) {
        if (settledBets(player).isEmpty()) {
            throw new ArithmeticException();
        }
        return (double) score(player) / (double) settledEstimates(player);
    }

    int calibrationError(int player) {
        player(player);
        int error = 0;
        for (int c = 1; c <= 9; c++) {
            int confidence = c;
            List<Bet> bin = settledBets(player).stream().filter(bet -> bet.confidence == confidence).toList();
            int hits = (int) bin.stream().filter(this::isHit).count();
            error += Math.abs(10 * hits - c * bin.size());
        }
        return error;
    }

    int bestCalibrated() {
        return IntStream.range(0, state.players).boxed().filter(player -> !settledBets(player).isEmpty())
                .min(Comparator.comparing(this::calibrationError)).orElseThrow();
    }

    int playerByScore(int rank) {
        List<Integer> sorted = IntStream.range(0, state.players).boxed()
                .sorted(Comparator.comparing(this::score).thenComparing(player -> -hits(player))).toList();
        if (rank < 0 || rank >= sorted.size()) {
            throw new NoSuchElementException();
        }
        return sorted.get(rank);
    }

    int binSize(int confidence) {
        level(confidence);
        return (int) settledBets().stream().filter(bet -> bet.confidence == confidence).count();
    }

    int binHits(int confidence) {
        level(confidence);
        return (int) settledBets().stream().filter(bet -> bet.confidence == confidence && isHit(bet)).count();
    }

    float binShare(int confidence) {
        if (binSize(confidence) == 0) {
            throw new ArithmeticException();
        }
        return (float) binHits(confidence) / (float) binSize(confidence);
    }

    int feed(char character) {
        if (buffer.length() == 60) {
            throw new IllegalStateException();
        }
        buffer += character;
        return buffer.length();
    }

    private static final String COMMAND = "player|open [0-9]"
            + "|bet [0-9] [0-9]{1,2} [0-9]{1,3}-[0-9]{1,3} [0-9] [0-9]{1,2}|settle [0-9]{1,3}|later|out [0-9]";
    private static final Pattern TEXT = Pattern.compile("(?:" + COMMAND + ")(?:;(?:" + COMMAND + "))*");

    int runCommands() {
        String text = buffer;
        buffer = "";
        if (!TEXT.matcher(text).matches()) {
            errorPosition = firstWrong(text);
            throw new IllegalArgumentException();
        }
        String[] commands = text.split(";");
        State before = state;
        for (int i = 0; i < commands.length; i++) {
            try {
                carryOut(commands[i]);
            } catch (RuntimeException e) {
                state = before;
                failedCommand = i;
                throw new UnsupportedOperationException();
            }
        }
        State after = state;
        state = before;
        return recorded(() -> {
            state = after;
            return commands.length;
        });
    }

    /** A text can go on if the matcher ran out of it before it failed. */
    private static int firstWrong(String text) {
        for (int length = 1; length <= text.length(); length++) {
            Matcher matcher = TEXT.matcher(text.substring(0, length));
            boolean canGoOn = matcher.matches() || matcher.hitEnd();
            if (!canGoOn) {
                return length - 1;
            }
        }
        return text.length();
    }

    private void carryOut(String command) {
        String[] words = command.split("[ -]");
        int[] numbers = IntStream.range(1, words.length).map(i -> Integer.parseInt(words[i])).toArray();
        switch (words[0]) {
            case "player" -> plainAddPlayer();
            case "open" -> plainOpenQuestion(numbers[0]);
            case "bet" -> plainEstimate(
                    new Bet(numbers[0], numbers[1], numbers[2], numbers[3], numbers[4], numbers[5]));
            case "settle" -> plainSettle(numbers[0]);
            case "later" -> plainPostpone();
            default -> plainWithdraw(numbers[0]);
        }
    }

    int errorPosition() {
        return known(errorPosition);
    }

    int failedCommand() {
        return known(failedCommand);
    }

    private static int known(Integer number) {
        if (number == null) {
            throw new NoSuchElementException();
        }
        return number;
    }

    int writeQuestion(int question) {
        open(question);
        output = "q" + question + "w" + weight(question) + betsOf(question).stream()
                .map(bet -> " " + bet.player + ":" + bet.low + "-" + bet.high + "c" + bet.confidence)
                .collect(Collectors.joining());
        return output.length();
    }

    char outputChar(int index) {
        if (index < 0 || index >= output.length()) {
            throw new IndexOutOfBoundsException();
        }
        return output.charAt(index);
    }

    int undoCount() {
        return past.size();
    }

    int undo() {
        if (past.isEmpty()) {
            throw new IllegalStateException();
        }
        state = past.removeLast();
        return past.size();
    }

    int save() {
        saved = state;
        return openCount();
    }

    int restore() {
        if (saved == null) {
            throw new IllegalStateException();
        }
        state = saved;
        past.clear();
        return openCount();
    }
}
