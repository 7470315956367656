import java.util.function.Consumer;
import java.util.function.Function;
import java.util.function.Supplier;

/** Counts and prints what is not as due; each test program ends with finish(). */
final class Check {
    private static int checks = 0;
    private static int wrong = 0;

    private Check() {
    }

    static void same(String what, Object got, Object due) {
        checks++;
        if (!due.equals(got)) {
            wrong++;
            report(what, String.valueOf(got).split("\n"), String.valueOf(due).split("\n"));
        }
    }

    /** Of long answers only the first line that differs, so that a report can be read. */
    private static void report(String what, String[] got, String[] due) {
        int line = 0;
        while (line < got.length - 1 && line < due.length - 1 && got[line].equals(due[line])) {
            line++;
        }
        System.out.println(what + " answered " + got[line] + ", due is " + due[line]);
    }

    /** What a call does: its answer as a text, or the exact class that it throws. */
    static String outcome(Supplier<Object> call) {
        try {
            return String.valueOf(call.get());
        } catch (RuntimeException e) {
            return "throws " + e.getClass().getSimpleName();
        }
    }

    static void fails(String what, Class<? extends RuntimeException> due, Supplier<Object> call) {
        same(what, outcome(call), "throws " + due.getSimpleName());
    }

    /**
     * Makes two objects in the same way and lets the call fail on one of them: it must throw exactly the due class, and
     * the two must answer alike ever after.
     */
    static void refused(String what, Class<? extends RuntimeException> due, Consumer<EstimateContest> scene,
            Function<EstimateContest, Object> call) {
        EstimateContest tried = new EstimateContest();
        EstimateContest twin = new EstimateContest();
        scene.accept(tried);
        scene.accept(twin);
        fails(what, due, () -> call.apply(tried));
        sameForEver(what + " leaves the state", tried, twin);
    }

    /** Uses both objects up: compares all that can be seen, then the input buffer, all undoable states and the saved one. */
    static void sameForEver(String what, EstimateContest tried, EstimateContest twin) {
        same(what, View.of(tried), View.of(twin));
        same(what + ", the input", View.ofInput(tried), View.ofInput(twin));
        int steps = twin.undoCount();
        for (int i = 0; i < steps; i++) {
            String due = outcome(twin::undo);
            same(what + ", undo", outcome(tried::undo), due);
            same(what + ", undone", View.of(tried), View.of(twin));
        }
        String due = outcome(twin::restore);
        same(what + ", restore", outcome(tried::restore), due);
        same(what + ", restored", View.of(tried), View.of(twin));
    }

    static void finish() {
        System.out.println(checks + " checks, " + wrong + " not as due");
        if (wrong != 0 || checks == 0) {
            System.exit(1);
        }
    }
}
