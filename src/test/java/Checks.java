import java.util.function.IntSupplier;
import java.util.function.Supplier;
import java.util.function.ToDoubleFunction;
import java.util.function.ToIntFunction;

/** Counts and tells tests; a test is a run of checks under one name. */
final class Checks {
    private String name = "";
    private int wrong = 0;
    private boolean anyFailed = false;

    interface Body {
        void run(Checks checks);
    }

    void test(String testName, Body body) {
        name = testName;
        wrong = 0;
        try {
            body.run(this);
        } catch (Throwable thrown) {
            wrong++;
            System.out.println("  " + name + ": threw " + thrown);
            thrown.printStackTrace(System.out);
        }
        System.out.println((wrong == 0 ? "passed " : "FAILED ") + name);
        anyFailed |= wrong != 0;
    }

    void due(String call, long got, long want) {
        if (got != want) {
            tell(call + " answered " + got + ", due is " + want);
        }
    }

    void due(String call, double got, double want) {
        if (got != want) {
            tell(call + " answered " + got + ", due is " + want);
        }
    }

    void due(String call, String got, String want) {
        if (!got.equals(want)) {
            tell(call + " answered " + got + ", due is " + want);
        }
    }

    /** A call that answers an error changes nothing that can be looked at. */
    void refused(LeanSticks x, String call, IntSupplier run, int want) {
        String before = Looks.all(x);
        due(call, run.getAsInt(), want);
        due("the state after " + call, Looks.all(x), before);
    }

    /** An object that got the call holds the same as another one, made likewise, that did not. */
    void keeps(Supplier<LeanSticks> make, String call, ToIntFunction<LeanSticks> run, int want) {
        LeanSticks x = make.get();
        due(call, run.applyAsInt(x), want);
        due("everything after " + call, Looks.everything(x), Looks.everything(make.get()));
    }

    void keepsDouble(Supplier<LeanSticks> make, String call, ToDoubleFunction<LeanSticks> run, double want) {
        LeanSticks x = make.get();
        due(call, run.applyAsDouble(x), want);
        due("everything after " + call, Looks.everything(x), Looks.everything(make.get()));
    }

    private void tell(String text) {
        wrong++;
        if (wrong <= 20) {
            System.out.println("  " + name + ": " + text);
        }
    }

    void end() {
        if (anyFailed) {
            System.exit(1);
        }
    }
}
