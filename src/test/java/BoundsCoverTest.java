import java.lang.reflect.Method;
import java.util.Set;
import java.util.TreeSet;

/** That each promise, 1 to 44, has a test at its bounds. */
public final class BoundsCoverTest {
    private static final Class<?>[] TESTS = {TokenBoundsTest.class, StationBoundsTest.class, ActBoundsTest.class,
        ChanceBoundsTest.class, PlanBoundsTest.class, RecordBoundsTest.class};

    public static void main(String[] args) {
        Set<Integer> seen = new TreeSet<>();
        for (Class<?> test : TESTS) {
            for (Method method : test.getDeclaredMethods()) {
                if (method.getName().startsWith("promise")) {
                    seen.add(Integer.parseInt(method.getName().substring(7, 9)));
                }
            }
        }
        for (int promise = 1; promise <= 44; promise++) {
            Due.is("promise " + promise + " has a test at its bounds", seen.contains(promise), true);
        }
        Due.close("BoundsCoverTest");
    }
}
