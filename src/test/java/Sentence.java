import java.util.List;
import java.util.Map;
import java.util.Set;
import java.util.TreeSet;

/** Runs the tests of single sentences of the document, and looks whether a sentence was passed over. */
final class Sentence {
    private static final Document DOCUMENT = new Document();
    private static final Set<String> TESTED = new TreeSet<>();

    /** Sections that tell what the class is, or what is free, and so name no boundary case. */
    private static final Set<String> PLAIN_SECTIONS = Set.of("Terms", "Not promised");

    /** Sentences that say what a call is for or what its answer is called, and name no boundary case. */
    private static final Set<String> PLAIN = Set.of(
            "A contest of estimates",
            "Adds a player",
            "Opens a question",
            "Makes an estimate",
            "Settles the first question of the queue",
            "Lets a player withdraw",
            "The result is computed with bit sets",
            "Appends a character to the input buffer",
            "Saves all players, questions, bins and the house",
            "Returns true if the player has withdrawn",
            "Returns true if there is such an estimate",
            "Returns true if all of this holds",
            "Returns the number of coins",
            "Returns the sum",
            "Returns the weight",
            "Returns the number of estimates",
            "Returns the index of the player",
            "Returns the number of the question",
            "Returns the value",
            "Returns the low value",
            "Returns the high value",
            "Returns the confidence",
            "Returns the stake",
            "Returns the number of values",
            "Returns the number of questions",
            "Returns the true value",
            "Returns the score",
            "Returns the mean",
            "Returns the calibration error",
            "Returns the share",
            "Returns the error position",
            "Returns the index",
            "Returns the character");

    private Sentence() {
    }

    static void test(String section, String sentence, Runnable test) {
        String name = section + ", '" + sentence + "'";
        Check.same(name + " in the document", DOCUMENT.holds(section, sentence), true);
        Check.same(name + " is new", TESTED.add(name), true);
        int before = Check.count();
        Check.about(name);
        String end = Check.outcome(() -> {
            test.run();
            return "";
        });
        Check.same("the whole test", end, "");
        Check.about("");
        Check.same(name + " makes a check", Check.count() > before + 1, true);
    }

    static void promise(int number, String sentence, Runnable test) {
        test("Promise " + number, sentence, test);
    }

    static void term(String term, String sentence, Runnable test) {
        test("Terms: " + term, sentence, test);
    }

    static void checkAllTested() {
        for (Map.Entry<String, List<String>> section : DOCUMENT.sections().entrySet()) {
            for (String sentence : section.getValue()) {
                String name = section.getKey() + ", '" + sentence + "'";
                boolean isPlain = PLAIN_SECTIONS.contains(section.getKey()) || PLAIN.contains(sentence);
                Check.same(name + " has a test", isPlain || TESTED.contains(name), true);
            }
        }
    }
}
