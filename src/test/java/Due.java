import java.util.concurrent.Callable;

/** Counts answers that are not the ones that are due, for the tests of the project. */
final class Due {
    static final Class<? extends Exception> UNKNOWN = IllegalArgumentException.class;
    static final Class<? extends Exception> RANGE = IndexOutOfBoundsException.class;
    static final Class<? extends Exception> STATE = IllegalStateException.class;
    static final Class<? extends Exception> NO_ROOM = UnsupportedOperationException.class;
    static final Class<? extends Exception> ARITHMETIC = ArithmeticException.class;

    private static final int MOST_REPORTS = 50;

    interface Act {
        void run() throws Exception;
    }

    interface IntAct {
        void run(int number) throws Exception;
    }

    private String place = "";
    private int wrong;

    /** Reports from here on name this case. */
    void begin(String name) {
        place = name;
    }

    void answers(long want, Callable<? extends Number> got) {
        try {
            long answer = got.call().longValue();
            if (answer != want) {
                report("answered " + answer + ", due is " + want);
            }
        } catch (Exception e) {
            report("throws " + e + ", due is " + want);
        }
    }

    void passes(Act act) {
        try {
            act.run();
        } catch (Exception e) {
            report("throws " + e + ", due is that it passes");
        }
    }

    /** That the call throws this very class, and that the object is as it was. */
    void refuses(LoadChecks x, Class<? extends Exception> want, Act act) {
        refuses("", x, want, act);
    }

    /** The neighbours of a range and the ends of int are refused. */
    void refusesOutside(int least, int most, LoadChecks x, Class<? extends Exception> want, IntAct act) {
        for (int number : new int[] {least - 1, most + 1, Integer.MIN_VALUE, Integer.MAX_VALUE}) {
            refuses("with " + number + " ", x, want, () -> act.run(number));
        }
    }

    // The very class: the machine's own exceptions are often below the ones that the document names.
    private void refuses(String text, LoadChecks x, Class<? extends Exception> want, Act act) {
        String before = State.of(x);
        try {
            act.run();
            report(text + "passes, due is " + want.getName());
        } catch (Exception e) {
            if (e.getClass() != want) {
                report(text + "throws " + e + ", due is " + want.getName());
            } else if ("/ by zero".equals(e.getMessage())) {
                report(text + "lets the machine divide by zero, due is a throw of its own");
            }
        }
        if (!State.of(x).equals(before)) {
            report(text + "changes the object, due is that it changes nothing");
        }
    }

    void holds(String what, boolean so) {
        if (!so) {
            report(what);
        }
    }

    void end() {
        System.out.println(wrong == 0 ? "all answers are as due" : wrong + " answers are not as due");
        if (wrong != 0) {
            System.exit(1);
        }
    }

    private void report(String text) {
        wrong++;
        if (wrong <= MOST_REPORTS) {
            System.out.println(place + " line " + callersLine() + ": " + text);
        }
    }

    private static int callersLine() {
        return StackWalker.getInstance().walk(frames -> frames
                .filter(frame -> !frame.getClassName().startsWith("Due"))
                .findFirst().map(StackWalker.StackFrame::getLineNumber).orElse(0));
    }
}
