import java.io.IOException;
import java.nio.file.Files;
import java.nio.file.Path;
import java.util.Set;
import java.util.TreeSet;
import java.util.regex.Matcher;
import java.util.regex.Pattern;

/** Each promise of the document has tests of its boundary cases, named after it by number and name. */
public final class BoundaryNamesTest {
    private static final Class<?>[] TESTS = {
        BoundaryTapeTest.class, BoundaryElementsTest.class, BoundaryPolynomialsTest.class, BoundaryOrdersTest.class,
        BoundaryActsTest.class};

    private BoundaryNamesTest() {
    }

    public static void main(String[] args) throws IOException {
        Set<String> named = new TreeSet<>();
        for (Class<?> owner : TESTS) {
            for (String test : Named.testsOf(owner).keySet()) {
                named.add(test.substring(0, test.indexOf('_', test.indexOf('_') + 1)));
            }
        }
        Set<String> due = new TreeSet<>();
        String document = Files.readString(Path.of("../shared/DOC.md"));
        Matcher heads = Pattern.compile("(?m)^## Promise (\\d+): (.+)$").matcher(document);
        while (heads.find()) {
            String name = heads.group(2).equals("A new object") ? "newObject" : heads.group(2).trim();
            due.add(String.format("promise%02d_%s", Integer.parseInt(heads.group(1)), name));
        }
        Check.due("promises", due.size(), 68);
        for (String promise : due) {
            Check.due("tests of " + promise, named.contains(promise) ? 1 : 0, 1);
        }
        for (String promise : named) {
            Check.due("there is " + promise, due.contains(promise) ? 1 : 0, 1);
        }
        Check.finish();
    }
}
