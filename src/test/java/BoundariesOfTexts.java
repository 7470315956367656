import java.util.NoSuchElementException;

/** A test for each sentence of the terms about commands, and of the promises 43 to 48: texts and the output. */
final class BoundariesOfTexts {
    private static final String[] KEYWORDS = {"player", "open", "bet", "settle", "later", "out"};
    /** Ten commands, 60 characters. */
    private static final String LONGEST = "later;".repeat(9) + "player";

    private BoundariesOfTexts() {
    }

    static void run() {
        form();
        commands();
        feed();
        runCommands();
        positions();
        writeQuestion();
        outputChar();
    }

    private static void form() {
        Sentence.term("Commands", "The input buffer holds at most 60 characters", BoundariesOfTexts::sixtyCharacters);
        Sentence.term("Commands", "A text consists of one or more commands, separated by semicolons",
                BoundariesOfTexts::oneOrMore);
        Sentence.term("Commands", "Questions and stakes have one or two digits; low, high and true values have one to"
                + " three digits; all other numbers are single digits", BoundariesOfTexts::digits);
        Sentence.term("Commands", "A text is malformed if it does not have this form", BoundariesOfTexts::noForm);
        Sentence.term("Commands", "Its error position is the index of the first character that cannot continue a"
                + " well-formed text, or the length of the text if the text ends too early",
                BoundariesOfTexts::errorPlaces);
        Sentence.term("Commands", "Keywords are compared letter by letter", BoundariesOfTexts::keywords);
        Sentence.term("Details", "A low value that is greater than the high value is well-formed in a text, and the"
                + " command then throws an exception", BoundariesOfTexts::lowsAboveHighs);
    }

    private static void commands() {
        Sentence.term("Commands", "\"player\" adds a player", () -> {
            parts("player");
            fails(5, "player;player;player;player;player;player");
            Check.same("five", ran("player;player;player;player;player").playerCount(), 5);
        });
        Sentence.term("Commands", "\"open\", a blank and a weight opens a question", () -> {
            parts("open 1");
            fails(0, "open 0");
            fails(0, "open 4");
            fails(6, "open 1;open 1;open 1;open 1;open 1;open 1;open 1");
            Check.same("six", ran("open 1;open 1;open 1;open 1;open 1;open 3").weight(5), 3);
        });
        Sentence.term("Commands", "\"bet\", a blank, a player, a blank, a question, a blank, the low value, a hyphen, the"
                + " high value, a blank, the confidence, a blank and the stake makes an estimate",
                BoundariesOfTexts::bets);
        Sentence.term("Commands", "\"settle\", a blank and the true value settles the first question", () -> {
            parts("settle 0");
            fails(0, "settle 0");
            fails(2, "open 1;settle 999;settle 0");
            Check.same("the least", ran("open 1;settle 0").recentTruth(0), 0);
            Check.same("the greatest", ran("open 1;settle 999").recentTruth(0), 999);
            Check.same("the first", ran("open 1;open 1;settle 0").questionAt(0), 1);
        });
        Sentence.term("Commands", "\"later\" postpones the first question", () -> {
            parts("later");
            fails(0, "later");
            Check.same("the only one", ran("open 1;later").questionAt(0), 0);
            Check.same("one of two", ran("open 1;open 1;later").questionAt(0), 1);
            Check.same("round the queue", ran("open 1;open 1;open 1;later;later;later").questionAt(0), 0);
        });
        Sentence.term("Commands", "\"out\", a blank and a player lets a player withdraw", () -> {
            parts("out 0");
            fails(0, "out 0");
            fails(1, "player;out 1");
            fails(2, "player;out 0;out 0");
            fails(5, "player;player;player;player;player;out 9");
            Check.same("the first", ran("player;player;player;player;player;out 0").hasWithdrawn(0), true);
            Check.same("the last", ran("player;player;player;player;player;out 4").hasWithdrawn(4), true);
        });
    }

    private static void bets() {
        parts("bet 0 0 0-0 1 1");
        String before = "player;open 1;";
        fails(2, before + "bet 1 0 0-0 1 1");
        fails(2, before + "bet 0 1 0-0 1 1");
        fails(2, before + "bet 0 0 1-0 1 1");
        fails(2, before + "bet 0 0 0-0 0 1");
        fails(2, before + "bet 0 0 0-0 1 0");
        fails(2, before + "bet 0 0 0-0 1 21");
        fails(2, before + "bet 0 0 0-0 1 99");
        fails(3, before + "bet 0 0 0-0 1 1;bet 0 0 0-0 1 1");
        fails(3, before + "out 0;bet 0 0 0-0 1 1");
        EstimateContest least = ran(before + "bet 0 0 0-0 1 1");
        Check.same("the least low", least.low(0, 0), 0);
        Check.same("the least high", least.high(0, 0), 0);
        Check.same("the least confidence", least.confidence(0, 0), 1);
        Check.same("the least stake", least.stake(0, 0), 1);
        EstimateContest greatest = ran(before + "bet 0 00 998-999 9 20");
        Check.same("a great low", greatest.low(0, 0), 998);
        Check.same("the greatest high", greatest.high(0, 0), 999);
        Check.same("the greatest confidence", greatest.confidence(0, 0), 9);
        Check.same("the greatest stake", greatest.stake(0, 0), 20);
    }

    private static EstimateContest ran(String text) {
        EstimateContest contest = new EstimateContest();
        View.run(contest, text);
        return contest;
    }

    private static void fails(int command, String text) {
        EstimateContest contest = new EstimateContest();
        Check.fails("run of '" + text + "'", UnsupportedOperationException.class, () -> View.run(contest, text));
        Check.same("failedCommand of '" + text + "'", Check.outcome(contest::failedCommand), String.valueOf(command));
        Check.fails("errorPosition of '" + text + "'", NoSuchElementException.class, contest::errorPosition);
    }

    private static void malformed(int place, String text) {
        EstimateContest contest = new EstimateContest();
        Check.fails("run of '" + text + "'", IllegalArgumentException.class, () -> View.run(contest, text));
        Check.same("errorPosition of '" + text + "'", Check.outcome(contest::errorPosition), String.valueOf(place));
        Check.fails("failedCommand of '" + text + "'", NoSuchElementException.class, contest::failedCommand);
    }

    private static void wellFormed(String text) {
        EstimateContest contest = new EstimateContest();
        Check.outcome(() -> View.run(contest, text));
        Check.fails("errorPosition of '" + text + "'", NoSuchElementException.class, contest::errorPosition);
    }

    /** Each cut ends too early, each sign too much or instead of another one is the first that cannot go on. */
    private static void parts(String command) {
        wellFormed(command);
        for (int place = 0; place < command.length(); place++) {
            String start = command.substring(0, place);
            malformed(place, start);
            malformed(place, start + "~" + command.substring(place));
            malformed(place, start + "~" + command.substring(place + 1));
            malformed(place + 6, "later;" + start);
        }
        malformed(command.length(), command + "~");
        malformed(command.length(), command + " ");
        malformed(command.length() + 1, command + ";");
        wellFormed(command + ";" + command);
    }

    private static void sixtyCharacters() {
        EstimateContest contest = new EstimateContest();
        contest.openQuestion(1);
        View.feed(contest, LONGEST.substring(0, 59));
        Check.same("the 60th", contest.feed('r'), 60);
        Check.fails("the 61st", IllegalStateException.class, () -> contest.feed(';'));
        Check.same("all 60 are carried out", contest.runCommands(), 10);
        Check.same("the last one too", contest.playerCount(), 1);
        View.feed(contest, LONGEST);
        Check.fails("the 61st again", IllegalStateException.class, () -> contest.feed(';'));
    }

    private static void oneOrMore() {
        EstimateContest contest = new EstimateContest();
        contest.openQuestion(1);
        Check.fails("none", IllegalArgumentException.class, contest::runCommands);
        Check.same("one", View.run(contest, "later"), 1);
        Check.same("two", View.run(contest, "later;later"), 2);
        Check.same("ten", View.run(contest, LONGEST), 10);
        malformed(0, "");
        malformed(0, ";");
        malformed(0, ";later");
        malformed(6, "later;");
        malformed(6, "later;;later");
        malformed(5, "later later");
        malformed(5, "later,later");
        malformed(5, "laterlater");
    }

    private static void digits() {
        numbers("bet ", 1, " 0 0-0 1 1");
        numbers("bet 0 ", 2, " 0-0 1 1");
        numbers("bet 0 0 ", 3, "-0 1 1");
        numbers("bet 0 0 0-", 3, " 1 1");
        numbers("bet 0 0 0-0 ", 1, " 1");
        numbers("bet 0 0 0-0 1 ", 2, "");
        numbers("settle ", 3, "");
        numbers("open ", 1, "");
        numbers("out ", 1, "");
    }

    /** A number stands between the two parts, with up to the digits given. */
    private static void numbers(String before, int digits, String after) {
        malformed(before.length(), before + after);
        for (int count = 1; count <= digits; count++) {
            wellFormed(before + "0".repeat(count) + after);
            wellFormed(before + "9".repeat(count) + after);
            wellFormed(before + "1".repeat(count) + after + ";later");
        }
        malformed(before.length() + digits, before + "0".repeat(digits + 1) + after);
        malformed(before.length() + digits, before + "1".repeat(digits + 1) + after);
        malformed(before.length(), before + "-1" + after);
        malformed(before.length(), before + "+1" + after);
        malformed(before.length(), before + (char) ('0' - 1) + after);
        malformed(before.length(), before + (char) ('9' + 1) + after);
        malformed(before.length(), before + (char) ('1' + 256) + after);
    }

    private static void noForm() {
        malformed(0, "\n");
        malformed(0, " later");
        malformed(5, "later ");
        malformed(5, "open  1");
        malformed(4, "open\t1");
        malformed(4, "open1");
        malformed(6, "player 1");
        malformed(9, "bet 0 0 0 0 1 1");
        malformed(9, "bet 0 0 0,0 1 1");
        malformed(10, "bet 0 0 0--0 1 1");
        malformed(3, "bet");
        malformed(0, "undo");
        malformed(0, "" + (char) 0);
        malformed(0, "" + (char) 65535);
        Check.same("no command is carried out", Check.outcome(() -> {
            EstimateContest contest = new EstimateContest();
            Check.outcome(() -> View.run(contest, "player;player;oops"));
            return contest.playerCount();
        }), "0");
    }

    private static void errorPlaces() {
        malformed(0, "");
        malformed(0, "x");
        malformed(1, "px");
        malformed(1, "p");
        malformed(59, LONGEST.substring(0, 59));
        malformed(59, LONGEST.substring(0, 59) + "x");
        malformed(60, "later;".repeat(10));
        malformed(58, LONGEST.substring(0, 58) + "xx");
        malformed(1, "oven");
        malformed(2, "ou;open 1");
        malformed(3, "out");
        wellFormed(LONGEST);
        wellFormed("later;".repeat(9) + "open 1");
    }

    /** Each letter is put a place back and on, and in capitals; then one keyword is mixed with another one. */
    private static void keywords() {
        for (String keyword : KEYWORDS) {
            for (int place = 0; place < keyword.length(); place++) {
                char letter = keyword.charAt(place);
                otherLetter(keyword, place, (char) (letter - 1));
                otherLetter(keyword, place, (char) (letter + 1));
                otherLetter(keyword, place, (char) (letter - 'a' + 'A'));
                otherLetter(keyword, place, (char) (letter + 256));
            }
        }
        malformed(2, "opt 1");
        malformed(2, "oun 1");
        malformed(2, "oupen 1");
        malformed(3, "outen 1");
        malformed(4, "setter 1");
        malformed(4, "latex");
        malformed(4, "playxx");
    }

    /** No keyword has the letters o or p in front of another one's rest. */
    private static void otherLetter(String keyword, int place, char letter) {
        boolean begins = place == 0 && (letter == 'o' || letter == 'p');
        malformed(begins ? 1 : place, keyword.substring(0, place) + letter + keyword.substring(place + 1));
    }

    private static void lowsAboveHighs() {
        for (String values : new String[] {"1-0", "999-998", "999-0", "500-499"}) {
            fails(2, "player;open 1;bet 0 0 " + values + " 1 1");
        }
        for (String values : new String[] {"0-0", "999-999", "500-500"}) {
            Check.same("equal", ran("player;open 1;bet 0 0 " + values + " 1 1").estimateCount(0), 1);
        }
    }

    private static void feed() {
        Sentence.promise(43, "`character`: any character", () -> {
            EstimateContest contest = new EstimateContest();
            char[] characters = {0, 1, '\n', ' ', ';', '0', 'a', 127, 128, 255, 256, 32767, 32768, 65534, 65535};
            for (int i = 0; i < characters.length; i++) {
                Check.same("feed", contest.feed(characters[i]), i + 1);
            }
        });
        Sentence.promise(43, "Returns the new length of the input buffer", BoundariesOfTexts::feedAnswers);
        Sentence.promise(43, "Throws `IllegalStateException` if the input buffer holds 60 characters",
                BoundariesOfTexts::feedRefuses);
    }

    private static void feedAnswers() {
        EstimateContest contest = new EstimateContest();
        for (int length = 1; length <= 60; length++) {
            Check.same("feed", contest.feed('x'), length);
        }
        Check.outcome(contest::runCommands);
        Check.same("from the beginning", contest.feed('x'), 1);
        contest.addPlayer();
        contest.undo();
        Check.same("and on", contest.feed('x'), 2);
    }

    private static void feedRefuses() {
        for (char character : new char[] {0, 'x', ';', 65535}) {
            Class<IllegalStateException> due = IllegalStateException.class;
            Check.refused("the 61st", due, c -> View.feed(c, LONGEST), c -> c.feed(character));
            Check.refused("the 61st, of a full contest", due, c -> {
                Scenes.full(c);
                View.feed(c, ";later".repeat(9) + "!");
            }, c -> c.feed(character));
        }
    }

    private static void runCommands() {
        Sentence.promise(44, "Carries out the text in the input buffer, command by command",
                BoundariesOfTexts::oneAfterTheOther);
        Sentence.promise(44, "If a command throws an exception, the state from before the call is kept",
                BoundariesOfTexts::failedTextsKeepTheState);
        Sentence.promise(44, "The input buffer is empty afterwards in all cases", BoundariesOfTexts::emptyAfterwards);
        Sentence.promise(44, "Returns the number of commands", BoundariesOfTexts::countsOfCommands);
        Sentence.promise(44, "Throws `IllegalArgumentException` if the text is malformed; the error position is kept",
                BoundariesOfTexts::malformedTextsKeepTheState);
        Sentence.promise(44, "Throws `UnsupportedOperationException` if a command throws an exception; the index of this"
                + " command is kept as the failed command", BoundariesOfTexts::failedIndices);
    }

    private static void oneAfterTheOther() {
        EstimateContest contest = ran("player;open 2;bet 0 0 5-9 1 20;settle 5;open 3;later;out 0");
        Check.same("coins", contest.coins(0), 280);
        Check.same("score", contest.score(0), 8);
        Check.same("the next question", contest.questionAt(0), 1);
        Check.same("is out", contest.hasWithdrawn(0), true);
        Check.same("only one call to undo", contest.undoCount(), 1);
        fails(3, "player;open 1;settle 5;bet 0 0 5-9 1 20");
        fails(2, "player;out 0;bet 0 0 5-9 1 20");
    }

    /**
     * A full contest that knows of a text that was malformed at 5 and of one whose command 2 failed, so that a text that
     * goes wrong at the same place leaves no trace. Eight calls can be undone, none of which may get lost.
     */
    private static void failedBefore(EstimateContest contest) {
        Scenes.full(contest);
        View.ofInput(contest);
        Check.same("errorPosition before", contest.errorPosition(), 5);
        Check.same("failedCommand before", contest.failedCommand(), 2);
        Check.same("undoCount before", contest.undoCount(), 8);
    }

    private static void keepsTheState(Class<? extends RuntimeException> due, String text) {
        Check.refused("run of '" + text + "'", due, BoundariesOfTexts::failedBefore, c -> View.run(c, text));
    }

    private static void failedTextsKeepTheState() {
        Class<UnsupportedOperationException> due = UnsupportedOperationException.class;
        keepsTheState(due, "later;later;player");
        keepsTheState(due, "settle 0;open 1;open 1");
        keepsTheState(due, "settle 0;settle 999;open 4");
        keepsTheState(due, "bet 2 3 0-999 9 20;later;bet 2 3 0-999 9 20");
        keepsTheState(due, "out 0;out 4;out 5");
        keepsTheState(due, "out 0;later;out 0;" + "later;".repeat(6) + "player");
        Check.refused("a text of six settlements", due, c -> {
            Scenes.full(c);
            View.ofInput(c);
            Check.outcome(() -> View.run(c, "later;later;later;later;later;later;out 5"));
        }, c -> View.run(c, "settle 9;settle 9;settle 9;settle 9;settle 9;settle 9;later"));
    }

    private static void malformedTextsKeepTheState() {
        Class<IllegalArgumentException> due = IllegalArgumentException.class;
        keepsTheState(due, "later.");
        keepsTheState(due, "open ");
        keepsTheState(due, "out 0x");
        keepsTheState(due, "later" + "x".repeat(55));
        EstimateContest contest = new EstimateContest();
        for (int place : new int[] {0, 60, 3, 0}) {
            Check.fails("a malformed text", due, () -> View.run(contest, "later;".repeat(10).substring(0, place)));
            Check.same("errorPosition", contest.errorPosition(), place);
        }
    }

    private static void emptyAfterwards() {
        EstimateContest contest = new EstimateContest();
        contest.openQuestion(1);
        View.run(contest, LONGEST);
        Check.same("after success", contest.feed('x'), 1);
        Check.outcome(contest::runCommands);
        Check.same("after a malformed text", contest.feed('x'), 1);
        View.feed(contest, "x".repeat(59));
        Check.outcome(contest::runCommands);
        Check.same("after a long malformed text", contest.feed('o'), 1);
        Check.outcome(() -> View.run(contest, "pen 4"));
        Check.same("after a failed command", contest.feed('x'), 1);
        Check.outcome(contest::runCommands);
        Check.outcome(contest::runCommands);
        Check.same("after an empty text", contest.errorPosition(), 0);
        Check.same("after an empty text", contest.feed('x'), 1);
        Check.outcome(contest::runCommands);
        Check.outcome(() -> View.run(contest, "settle 123;settle 123;settle 123"));
        Check.same("nothing of it goes on behind a shorter text", View.run(contest, "settle 4"), 1);
        Check.same("recentTruth", contest.recentTruth(0), 4);
        Check.fails("nor behind a text that ends too early", IllegalArgumentException.class,
                () -> View.run(contest, "settle"));
        Check.same("errorPosition", contest.errorPosition(), 6);
    }

    private static void countsOfCommands() {
        EstimateContest contest = new EstimateContest();
        contest.openQuestion(1);
        for (int count = 1; count <= 10; count++) {
            Check.same("commands", View.run(contest, "later;".repeat(count).substring(0, 6 * count - 1)), count);
        }
    }

    private static void failedIndices() {
        fails(0, "later");
        fails(0, "later;player");
        fails(1, "player;later");
        fails(8, "open 1;" + "later;".repeat(7) + "open 4");
        EstimateContest contest = new EstimateContest();
        contest.openQuestion(1);
        Check.fails("the last of ten", UnsupportedOperationException.class,
                () -> View.run(contest, "later;".repeat(9) + "open 4"));
        Check.same("failedCommand", contest.failedCommand(), 9);
        Check.fails("the first of ten", UnsupportedOperationException.class,
                () -> View.run(contest, "open 4" + ";later".repeat(9)));
        Check.same("failedCommand", contest.failedCommand(), 0);
    }

    private static void positions() {
        Sentence.promise(45, "Returns the error position of the latest malformed text",
                BoundariesOfTexts::latestPositions);
        Sentence.promise(45, "Throws `NoSuchElementException` if no text was malformed", () -> {
            Class<NoSuchElementException> due = NoSuchElementException.class;
            Check.refused("no text at all", due, Scenes::empty, c -> c.errorPosition());
            Check.refused("a text that is not run", due, c -> View.feed(c, "x"), c -> c.errorPosition());
            Check.refused("a well-formed text", due, c -> View.run(c, "player"), c -> c.errorPosition());
            Check.refused("a failed command", due, c -> Check.outcome(() -> View.run(c, "later")),
                    c -> c.errorPosition());
        });
        Sentence.promise(46, "Returns the index of the command, counted from 0, that threw an exception in the latest"
                + " failed call of runCommands", BoundariesOfTexts::latestFailures);
        Sentence.promise(46, "Throws `NoSuchElementException` if no command failed", () -> {
            Class<NoSuchElementException> due = NoSuchElementException.class;
            Check.refused("no text at all", due, Scenes::empty, c -> c.failedCommand());
            Check.refused("a text that is not run", due, c -> View.feed(c, "later"), c -> c.failedCommand());
            Check.refused("a text that went well", due, c -> View.run(c, "player"), c -> c.failedCommand());
            Check.refused("a malformed text", due, c -> Check.outcome(() -> View.run(c, "later;x")),
                    c -> c.failedCommand());
            Check.refused("a call that failed", due, c -> Check.outcome(c::postpone), c -> c.failedCommand());
        });
    }

    private static void latestPositions() {
        EstimateContest contest = new EstimateContest();
        String[] texts = {"x", "later;".repeat(10), "player;x", "player", "later", ""};
        int[] due = {0, 60, 7, 7, 7, 0};
        for (int i = 0; i < due.length; i++) {
            String text = texts[i];
            Check.outcome(() -> View.run(contest, text));
            Check.same("after '" + text + "'", contest.errorPosition(), due[i]);
        }
        contest.undo();
        Check.same("after undo", contest.errorPosition(), 0);
    }

    private static void latestFailures() {
        EstimateContest contest = new EstimateContest();
        String[] texts = {"later", "player;player;later", "player", "player;x", "open 1;out 5;out 6", "open 4"};
        int[] due = {0, 2, 2, 2, 1, 0};
        for (int i = 0; i < due.length; i++) {
            String text = texts[i];
            Check.outcome(() -> View.run(contest, text));
            Check.same("after '" + text + "'", contest.failedCommand(), due[i]);
        }
        contest.undo();
        Check.same("after undo", contest.failedCommand(), 0);
    }

    private static void writeQuestion() {
        Sentence.promise(47, "Replaces the output by a description of an open question: \"q\", its number, \"w\" and its"
                + " weight, and for each of its estimates, in the order in which they were made, a blank, the player,"
                + " \":\", the low value, \"-\", the high value, \"c\" and the confidence",
                BoundariesOfTexts::descriptions);
        Sentence.promise(47, "An example is q3w2 0:10-25c9", () -> {
            EstimateContest contest = ran("player;open 1;open 1;open 1;open 2;bet 0 3 10-25 9 1");
            contest.writeQuestion(3);
            Check.same("output", View.output(contest), "q3w2 0:10-25c9");
        });
        Sentence.promise(47, "`question`: number of a question", () -> {
            Absent.allQuestions((c, question) -> {
                c.writeQuestion(question);
                return View.output(c);
            }, "q2w1", "q3w2 0:999-999c9 4:0-999c1",
                    "q4w3 4:40-940c9 0:0-5c1 3:30-930c8 1:10-910c6 2:20-920c7", "q5w1 1:7-8c2", "q6w2", "q7w3",
                    "q0w2 0:100-199c4");
        });
        Sentence.promise(47, "Returns the length of the output",
                () -> Absent.allQuestions(EstimateContest::writeQuestion, 4, 26, 56, 12, 4, 4, 16));
        Sentence.promise(47, "Throws `NoSuchElementException` if there is no such open question",
                () -> Absent.questions(EstimateContest::writeQuestion));
    }

    private static void written(EstimateContest contest, int question, String due) {
        Check.same("length", contest.writeQuestion(question), due.length());
        Check.same("output", View.output(contest), due);
    }

    private static void descriptions() {
        EstimateContest contest = new EstimateContest();
        Scenes.players(contest, 5);
        for (int number = 0; number < 100; number++) {
            contest.openQuestion(1);
            if (number == 0 || number == 9 || number == 10 || number == 99) {
                written(contest, number, "q" + number + "w1");
            }
            contest.settle(0);
        }
        contest.openQuestion(3);
        for (int player = 4; player >= 0; player--) {
            contest.estimate(player, 100, 100 * player, 999, 9, 20);
        }
        written(contest, 100, "q100w3 4:400-999c9 3:300-999c9 2:200-999c9 1:100-999c9 0:0-999c9");
        contest.withdraw(4);
        written(contest, 100, "q100w3 3:300-999c9 2:200-999c9 1:100-999c9 0:0-999c9");
        contest.openQuestion(2);
        contest.estimate(3, 101, 0, 0, 1, 1);
        written(contest, 101, "q101w2 3:0-0c1");
        written(contest, 101, "q101w2 3:0-0c1");
    }

    private static void outputChar() {
        Sentence.promise(48, "Returns a character of the output", () -> {
            EstimateContest contest = Scenes.made(Scenes::full);
            String output = "q3w2 0:999-999c9 4:0-999c1";
            for (int i = 0; i < output.length(); i++) {
                Check.same("outputChar " + i, contest.outputChar(i), output.charAt(i));
            }
        });
        Sentence.promise(48, "The output is initially empty", () -> {
            for (int index : new int[] {-1, 0, 1}) {
                Check.refused("outputChar " + index, IndexOutOfBoundsException.class, Scenes::empty,
                        c -> c.outputChar(index));
            }
            Check.refused("nothing written yet", IndexOutOfBoundsException.class, Scenes::single, c -> c.outputChar(0));
        });
        Sentence.promise(48, "`index`: index of a character of the output", () -> {
            EstimateContest contest = Scenes.made(Scenes::full);
            Check.same("the first", contest.outputChar(0), 'q');
            Check.same("the last", contest.outputChar(25), '1');
            Check.fails("before the first", IndexOutOfBoundsException.class, () -> contest.outputChar(-1));
            Check.fails("behind the last", IndexOutOfBoundsException.class, () -> contest.outputChar(26));
            contest.writeQuestion(2);
            Check.same("the last of a shorter one", contest.outputChar(3), '1');
            Check.fails("behind it", IndexOutOfBoundsException.class, () -> contest.outputChar(4));
        });
        Sentence.promise(48, "Throws `IndexOutOfBoundsException` if there is no such character",
                BoundariesOfTexts::outputCharRefuses);
    }

    private static void outputCharRefuses() {
        Class<IndexOutOfBoundsException> due = IndexOutOfBoundsException.class;
        for (int index : new int[] {-1, 26, 27, Integer.MIN_VALUE, Integer.MAX_VALUE}) {
            Check.refused("outputChar " + index, due, Scenes::full, c -> c.outputChar(index));
        }
        for (int index : new int[] {4, 25}) {
            Check.refused("outputChar " + index + " of a shorter one", due, c -> {
                Scenes.full(c);
                c.writeQuestion(2);
            }, c -> c.outputChar(index));
        }
    }
}
