import java.lang.reflect.Method;
import java.util.TreeMap;
import java.util.Map;

/** Each promise and each part of the terms has tests of its bounds that bear its number. */
final class BoundsCoverTest {
    private static final Class<?>[] TESTS = {TextBoundsTest.class, CountyBoundsTest.class, DeedsBoundsTest.class,
        KeptBoundsTest.class, ToldBoundsTest.class, TraysBoundsTest.class};

    public static void main(String[] args) {
        Map<String, Integer> many = new TreeMap<>();
        for (Class<?> tests : TESTS) {
            for (Method m : tests.getDeclaredMethods()) {
                if (m.getName().matches("(term\\d|promise\\d\\d)_.*")) {
                    many.merge(m.getName().substring(0, m.getName().indexOf('_')), 1, Integer::sum);
                }
            }
        }
        for (int promise = 1; promise <= 39; promise++) {
            String name = String.format("promise%02d", promise);
            Check.due(name + " has a test of its bounds", many.containsKey(name) ? 1 : 0, 1);
        }
        for (int term = 1; term <= 3; term++) {
            Check.due("term" + term + " has a test of its bounds", many.containsKey("term" + term) ? 1 : 0, 1);
        }
        System.out.println("tests of bounds: " + many);
        Check.end("BoundsCoverTest");
    }
}
