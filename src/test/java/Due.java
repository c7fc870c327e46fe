import java.util.concurrent.Callable;

/** Counts answers that are not the ones that are due, for the tests of the project. */
final class Due {
    static final Class<? extends Exception> UNKNOWN = IllegalArgumentException.class;
    static final Class<? extends Exception> RANGE = IndexOutOfBoundsException.class;
    static final Class<? extends Exception> STATE = IllegalStateException.class;
    static final Class<? extends Exception> NO_ROOM = UnsupportedOperationException.class;
    static final Class<? extends Exception> ARITHMETIC = ArithmeticException.class;

    interface Act {
        void run() throws Exception;
    }

    private int wrong;

    void answers(String call, long want, Callable<? extends Number> got) {
        try {
            long answer = got.call().longValue();
            if (answer != want) {
                report(call + " answered " + answer + ", due is " + want);
            }
        } catch (Exception e) {
            report(call + " throws " + e + ", due is " + want);
        }
    }

    void passes(String call, Act act) {
        try {
            act.run();
        } catch (Exception e) {
            report(call + " throws " + e + ", due is that it passes");
        }
    }

    /** The very class: the machine's own exceptions are often below the ones that the document names. */
    void refuses(String call, Class<? extends Exception> want, Act act) {
        try {
            act.run();
            report(call + " passes, due is " + want.getName());
        } catch (Exception e) {
            if (e.getClass() != want) {
                report(call + " throws " + e + ", due is " + want.getName());
            }
        }
    }

    void holds(String what, boolean so) {
        if (!so) {
            report(what);
        }
    }

    void end() {
        System.out.println(wrong == 0 ? "all answers are as due" : wrong + " answers are not as due");
        if (wrong != 0) {
            System.exit(1);
        }
    }

    private void report(String text) {
        wrong++;
        if (wrong <= 50) {
            System.out.println(text);
        }
    }
}
