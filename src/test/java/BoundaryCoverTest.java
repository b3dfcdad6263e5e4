import java.lang.reflect.Method;
import java.util.TreeMap;

/** Each promise has a boundary case, and each class of cases is among those that are looked at here. */
public final class BoundaryCoverTest {
    private static final int PROMISES = 47;

    public static void main(String[] args) {
        Class<?>[] all = {BoundaryStepsTest.class, BoundaryTextTest.class, BoundaryStateTest.class,
            BoundaryQuestionTest.class};
        TreeMap<Integer, Integer> cases = new TreeMap<>();
        for (Class<?> tests : all) {
            for (Method test : Cases.of(tests)) {
                cases.merge(Cases.promiseOf(test), 1, Integer::sum);
            }
        }
        for (int promise = 1; promise <= PROMISES; promise++) {
            Checks.due("promise " + promise + " has a case", cases.containsKey(promise));
        }
        Checks.due("promises with cases", cases.size(), PROMISES);
        Checks.finish("BoundaryCoverTest");
    }
}
