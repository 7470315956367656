import java.util.function.Consumer;
import java.util.function.Function;
import java.util.function.Supplier;

/** Counts and prints what is not as due; each test program ends with finish(). */
final class Check {
    private static int checks = 0;
    private static int wrong = 0;
    private static String about = "";

    private Check() {
    }

    /** Names the sentence that is tested, for the reports. */
    static void about(String name) {
        about = name.isEmpty() ? "" : "[" + name + "] ";
    }

    static int count() {
        return checks;
    }

    static void same(String what, Object got, Object due) {
        checks++;
        if (!due.equals(got)) {
            wrong++;
            report(what, String.valueOf(got).split("\n"), String.valueOf(due).split("\n"));
        }
    }

    /** Of long answers only the first line that differs, so that a report can be read. */
    private static void report(String what, String[] got, String[] due) {
        int line = 0;
        while (line < got.length - 1 && line < due.length - 1 && got[line].equals(due[line])) {
            line++;
        }
        System.out.println(about + what + " answered " + got[line] + ", due is " + due[line]);
    }

    /** What a call does: its answer as a text, or the exact class that it throws. */
    static String outcome(Supplier<Object> call) {
        try {
            return String.valueOf(call.get());
        } catch (RuntimeException e) {
            return "throws " + e.getClass().getSimpleName();
        }
    }

    static void fails(String what, Class<? extends RuntimeException> due, Supplier<Object> call) {
        same(what, outcome(call), "throws " + due.getSimpleName());
    }

    /**
     * Makes two objects in the same way and lets the call fail on one of them: it must throw exactly the due class, and
     * the two must answer alike ever after. Each look at the two uses up calls, so each has two objects of its own.
     */
    static void refused(String what, Class<? extends RuntimeException> due, Consumer<EstimateContest> scene,
            Function<EstimateContest, Object> call) {
        for (View.Look look : View.LOOKS) {
            EstimateContest tried = Scenes.made(scene);
            EstimateContest twin = Scenes.made(scene);
            fails(what, due, () -> call.apply(tried));
            same(what + " leaves the state", look.at(tried), look.at(twin));
        }
    }

    static void finish() {
        System.out.println(checks + " checks, " + wrong + " not as due");
        if (wrong != 0 || checks == 0) {
            System.exit(1);
        }
    }
}
