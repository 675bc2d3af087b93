import java.lang.reflect.Method;
import java.util.List;

/** Every promise, 1 to 36, has tests that are named after it, among them one of what it refuses, if it refuses anything. */
public final class PromiseCoverageTest {
    private static final int PROMISES = 36;
    private static final List<Class<?>> BOUNDARIES = List.of(Promise01To05Test.class, Promise06To14Test.class, Promise15To19Test.class,
            Promise20To27Test.class, Promise28To36Test.class);

    public static void main(String[] args) {
        int[] tests = new int[PROMISES + 1];
        for (Class<?> one : BOUNDARIES) {
            for (Method test : Promises.testsOf(one)) {
                int promise = Promises.promiseOf(test);
                boolean known = promise >= 1 && promise <= PROMISES;
                Check.due(test.getName() + " is of a promise", known, true);
                tests[known ? promise : 0]++;
                Check.due(test.getName() + " stands in its class", standsIn(one, promise), true);
            }
        }
        for (int promise = 1; promise <= PROMISES; promise++) {
            Check.due("promise " + promise + " has a test", tests[promise] > 0, true);
        }
        boolean[] refusals = new boolean[PROMISES + 1];
        for (Method test : Promises.testsOf(PromiseRefusedTest.class)) {
            refusals[Promises.promiseOf(test)] = true;
        }
        for (int promise = 2; promise <= PROMISES; promise++) {
            Check.due("promise " + promise + " has a test of what is refused", refusals[promise], true);
        }
        Check.finish();
    }

    /** PromiseAAToBBTest has the promises from AA to BB. */
    private static boolean standsIn(Class<?> tests, int promise) {
        String name = tests.getName();
        int from = Integer.parseInt(name.substring(7, 9));
        int to = Integer.parseInt(name.substring(11, 13));
        return promise >= from && promise <= to;
    }
}
