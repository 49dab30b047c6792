import java.lang.reflect.InvocationTargetException;
import java.lang.reflect.Method;
import java.util.Arrays;
import java.util.Comparator;
import java.util.List;

/** What the tests of the promises share. A test is a static method whose name begins with "promise". */
abstract class Tests {
    static final int REFUSED = CeilingScheduler.REFUSED;
    static final int FULL = CeilingScheduler.FULL;
    static final int DONE = CeilingScheduler.DONE;
    static final int NONE = CeilingScheduler.NONE;
    static final int MIN = Integer.MIN_VALUE;
    static final int MAX = Integer.MAX_VALUE;

    private static String running = "";
    private static int wrong = 0;

    /** A task's profile, for with and started. */
    static int[] task(int period, int cost, int deadline, int priority, int offset) {
        return new int[] {period, cost, deadline, priority, offset};
    }

    static Run with(int[]... profiles) {
        Run run = new Run();
        for (int i = 0; i < profiles.length; i++) {
            int[] p = profiles[i];
            run.define(p[0], p[1], p[2], p[3], p[4]).is(i);
        }
        return run;
    }

    static Run started(int[]... profiles) {
        Run run = with(profiles);
        run.start().is(DONE);
        return run;
    }

    static void wrong(String what) {
        wrong++;
        System.out.println(running + ": " + what);
    }

    static void run(Class<?> type) {
        List<Method> tests = Arrays.stream(type.getDeclaredMethods())
            .filter(m -> m.getName().startsWith("promise"))
            .sorted(Comparator.comparing(Method::getName)).toList();
        tests.forEach(Tests::runOne);
        System.out.println(tests.size() + " tests, " + wrong + " answers are not as due");
        // A class without tests is a fault too: it would pass whatever the program does.
        if (wrong != 0 || tests.isEmpty()) {
            System.exit(1);
        }
    }

    private static void runOne(Method test) {
        running = test.getName();
        try {
            test.invoke(null);
        } catch (InvocationTargetException e) {
            wrong("threw " + e.getCause());
        } catch (IllegalAccessException | IllegalArgumentException e) {
            wrong("is no test: " + e);
        }
    }
}
