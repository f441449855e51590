import java.io.IOException;
import java.io.UncheckedIOException;
import java.nio.file.Files;
import java.nio.file.Path;
import java.util.ArrayList;
import java.util.Comparator;
import java.util.HashSet;
import java.util.List;
import java.util.Set;
import java.util.regex.Matcher;
import java.util.regex.Pattern;
import java.util.stream.Stream;

/** README.md, followed from a clean checkout: its commands, its example and the names in it. */
public final class ReadmeTest {
    private static final Path ROOT = Path.of("");
    private static final Path EXAMPLE = Path.of("src/example/java/Example.java");
    private static final Path TESTS = Path.of("src/test/java");
    /** A kind of block, its lines, and what it should print, if the next block tells it. */
    private static final Pattern BLOCK =
        Pattern.compile("(?s)```(\\w+)\n(.*?)```\n(?:\nIt prints:\n\n```text\n(.*?)```)?");

    private final String page;
    private final Path checkout;

    private ReadmeTest(Path room) throws IOException {
        page = Files.readString(Path.of("README.md"));
        checkout = room.resolve("main");
        copy(ROOT.resolve("src"), checkout.resolve("src"));
        copy(ROOT.resolve("../shared/tests"), room.resolve("shared/tests"));
    }

    public static void main(String[] args) throws IOException, InterruptedException {
        Path room = Files.createTempDirectory("readme");
        try {
            ReadmeTest test = new ReadmeTest(room);
            test.example();
            test.commands();
            test.testNames();
            test.methodNames();
            test.paths();
        } finally {
            remove(room);
        }
        Check.finish();
    }

    private static void yes(String what, boolean holds) {
        Check.due(what, holds ? 1 : 0, 1);
    }

    private void example() throws IOException {
        Matcher block = BLOCK.matcher(page);
        int found = 0;
        while (block.find()) {
            if (block.group(1).equals("java")) {
                yes("the example is the file's", block.group(2).equals(Files.readString(EXAMPLE)));
                found++;
            }
        }
        Check.due("examples", found, 1);
    }

    /** Runs what the page tells to run, but for .ci/run, which runs this test. */
    private void commands() throws IOException, InterruptedException {
        Matcher block = BLOCK.matcher(page);
        int run = 0;
        int printed = 0;
        while (block.find()) {
            String lines = block.group(2);
            if (!block.group(1).equals("sh") || lines.equals(".ci/run\n")) {
                continue;
            }
            String got = outputOf(lines);
            run++;
            if (block.group(3) != null) {
                yes(lines + "printed\n" + got, got.equals(block.group(3)));
                printed++;
            }
        }
        Check.due("commands", run, 3);
        Check.due("commands that print what is told", printed, 1);
        yes(".ci/run is told", page.contains("```sh\n.ci/run\n```"));
        yes(".ci/run can be run", Files.isExecutable(ROOT.resolve(".ci/run")));
    }

    private String outputOf(String lines) throws IOException, InterruptedException {
        remove(checkout.resolve("out"));
        ProcessBuilder shell = new ProcessBuilder("sh", "-e", "-c", lines);
        shell.directory(checkout.toFile()).redirectErrorStream(true);
        Process process = shell.start();
        String got = new String(process.getInputStream().readAllBytes());
        int code = process.waitFor();
        Check.due(lines + "printed\n" + got + "and", code, 0);
        return got;
    }

    private void testNames() throws IOException {
        Set<String> files = new HashSet<>();
        for (Path file : below(TESTS)) {
            String name = file.getFileName().toString();
            if (name.endsWith("Test.java")) {
                files.add(name.substring(0, name.length() - ".java".length()));
            }
        }
        yes("there are tests", files.size() > 5);
        String list = page.substring(page.indexOf("\n- `PromiseTest`"));
        for (String file : files) {
            yes(file + " is told", list.contains("`" + file + "`"));
        }
        for (String name : allOf("`(\\w+Test)`")) {
            yes(name + " is there", files.contains(name));
        }
    }

    private void methodNames() {
        Set<String> face = new HashSet<>();
        for (String method : LanguageTest.FACE.split(",")) {
            face.add(method.split(" ")[1]);
        }
        List<String> told = allOf("`(\\w+)\\(\\w*\\)`");
        yes("methods are told", told.size() > 10);
        for (String method : told) {
            yes(method + "() is one of the class", face.contains(method));
        }
    }

    private void paths() {
        List<String> told = allOf("`((?:\\.\\./|\\.ci/|src/)[\\w./]*)`");
        yes("places are told", told.size() > 3);
        for (String path : told) {
            yes(path + " is there", Files.exists(ROOT.resolve(path)));
        }
    }

    private List<String> allOf(String pattern) {
        List<String> all = new ArrayList<>();
        Matcher matcher = Pattern.compile(pattern).matcher(page);
        while (matcher.find()) {
            all.add(matcher.group(1));
        }
        return all;
    }

    private static List<Path> below(Path top) throws IOException {
        try (Stream<Path> walk = Files.walk(top)) {
            return walk.sorted().toList();
        }
    }

    private static void copy(Path from, Path to) throws IOException {
        for (Path path : below(from)) {
            Path target = to.resolve(from.relativize(path).toString());
            if (Files.isDirectory(path)) {
                Files.createDirectories(target);
            } else {
                // Not copied as it is: what may only be read could not be taken away.
                Files.write(target, Files.readAllBytes(path));
            }
        }
    }

    private static void remove(Path top) throws IOException {
        if (!Files.exists(top)) {
            return;
        }
        try (Stream<Path> walk = Files.walk(top)) {
            walk.sorted(Comparator.reverseOrder()).forEach(ReadmeTest::removeOne);
        }
    }

    private static void removeOne(Path path) {
        try {
            Files.delete(path);
        } catch (IOException thrown) {
            throw new UncheckedIOException(thrown);
        }
    }
}
