import java.util.Set;
import java.util.TreeSet;

/** Each promise has tests of its boundary cases, named after it by number and name. */
public final class BoundaryNamesTest {
    private static final Class<?>[] TESTS = {
        BoundaryTapeTest.class, BoundaryElementsTest.class, BoundaryPolynomialsTest.class, BoundaryOrdersTest.class,
        BoundaryActsTest.class};

    private BoundaryNamesTest() {
    }

    public static void main(String[] args) {
        Set<String> named = new TreeSet<>();
        for (Class<?> owner : TESTS) {
            for (String test : Named.testsOf(owner).keySet()) {
                named.add(test.substring(0, test.indexOf('_', test.indexOf('_') + 1)));
            }
        }
        Set<String> due = promises();
        Check.due("promises", due.size(), 68);
        for (String promise : due) {
            Check.due("tests of " + promise, named.contains(promise) ? 1 : 0, 1);
        }
        for (String promise : named) {
            Check.due("there is " + promise, due.contains(promise) ? 1 : 0, 1);
        }
        Check.finish();
    }

    /** Behind the first one, the document's promises are its methods, in the order of its face. */
    private static Set<String> promises() {
        Set<String> due = new TreeSet<>();
        due.add("promise01_newObject");
        int number = 2;
        for (String method : LanguageTest.FACE.split(",")) {
            due.add(String.format("promise%02d_%s", number, method.split(" ")[1]));
            number++;
        }
        return due;
    }
}
