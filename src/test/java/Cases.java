import java.lang.reflect.InvocationTargetException;
import java.lang.reflect.Method;
import java.util.Arrays;
import java.util.Comparator;
import java.util.regex.Matcher;
import java.util.regex.Pattern;

/** Runs the cases of a test: its methods named p, the promise's number of two digits, _, and the case. */
final class Cases {
    private static final Pattern NAME = Pattern.compile("p(\\d\\d)_\\w+");
    private static final int PROMISES = 23;

    private Cases() {
    }

    /** Fails too if one of the promises has no case, or a case is of another promise. */
    static void run(Class<?> test, int firstPromise, int lastPromise) {
        Due due = new Due();
        int[] cases = new int[PROMISES + 1];
        Method[] methods = test.getDeclaredMethods();
        Arrays.sort(methods, Comparator.comparing(Method::getName));
        for (Method method : methods) {
            Matcher name = NAME.matcher(method.getName());
            if (name.matches()) {
                cases[Integer.parseInt(name.group(1))]++;
                due.begin(test.getSimpleName() + "." + method.getName());
                run(method, due);
            }
        }
        due.begin(test.getSimpleName());
        for (int promise = 1; promise <= PROMISES; promise++) {
            boolean belongsHere = promise >= firstPromise && promise <= lastPromise;
            due.holds("promise " + promise + " has " + cases[promise] + " cases here", belongsHere == cases[promise] > 0);
        }
        System.out.println(Arrays.stream(cases).sum() + " cases");
        due.end();
    }

    private static void run(Method method, Due due) {
        try {
            method.setAccessible(true);
            method.invoke(null, due);
        } catch (InvocationTargetException e) {
            due.holds("ends with " + e.getCause(), false);
        } catch (IllegalAccessException e) {
            throw new AssertionError(e);
        }
    }
}
