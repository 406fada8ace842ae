import java.io.IOException;
import java.lang.reflect.Method;
import java.lang.reflect.Modifier;
import java.nio.file.Files;
import java.nio.file.Path;
import java.util.ArrayList;
import java.util.Comparator;
import java.util.List;
import java.util.regex.Matcher;
import java.util.regex.Pattern;
import java.util.stream.Stream;

/** README.md holds as it is written: its example, its commands, and the names that it gives. */
public final class ReadmeTests {
    private static final Path PROJECT = Path.of("").toAbsolutePath();

    private static int passed = 0;
    private static int failed = 0;

    private interface Body {
        List<String> wrongs() throws IOException, InterruptedException;
    }

    private static void test(String name, Body body) throws IOException, InterruptedException {
        List<String> wrongs = body.wrongs();
        for (String wrong : wrongs) {
            System.out.println(name + ": " + wrong);
        }
        if (wrongs.isEmpty()) {
            passed++;
        } else {
            failed++;
        }
    }

    private static String readme() throws IOException {
        return Files.readString(PROJECT.resolve("README.md"));
    }

    /** The fenced blocks of one language, in their order. */
    private static List<String> blocks(String language) throws IOException {
        List<String> blocks = new ArrayList<>();
        Matcher matcher = Pattern.compile("(?ms)^```" + language + "\n(.*?)^```$").matcher(readme());
        while (matcher.find()) {
            blocks.add(matcher.group(1));
        }
        return blocks;
    }

    // ---- the example and the commands

    /** A directory that looks like this one, with ../shared, and that a command may write into. */
    private static Path copyOfProject() throws IOException {
        Path place = Files.createTempDirectory("readme");
        Path project = Files.createDirectory(place.resolve("project"));
        Files.createSymbolicLink(project.resolve("src"), PROJECT.resolve("src"));
        Files.createSymbolicLink(place.resolve("shared"), PROJECT.resolveSibling("shared"));
        Files.writeString(project.resolve("Example.java"), blocks("java").get(0));
        return project;
    }

    private static void remove(Path place) throws IOException {
        List<Path> paths = new ArrayList<>();
        try (Stream<Path> walk = Files.walk(place)) {
            walk.sorted(Comparator.reverseOrder()).forEach(paths::add);
        }
        for (Path path : paths) {
            Files.delete(path);
        }
    }

    private static String run(String commands, List<String> wrongs) throws IOException, InterruptedException {
        Path project = copyOfProject();
        Process process = new ProcessBuilder("sh", "-eu", "-c", commands).directory(project.toFile())
                .redirectErrorStream(true).start();
        process.getOutputStream().close();
        String printed = new String(process.getInputStream().readAllBytes());
        int code = process.waitFor();
        if (code != 0) {
            wrongs.add("the commands end with exit code " + code + ":\n" + commands + printed);
        }
        remove(project.getParent());
        return printed;
    }

    private static List<String> exampleWrongs() throws IOException, InterruptedException {
        List<String> wrongs = new ArrayList<>();
        if (blocks("java").size() != 1 || blocks("text").size() != 1 || blocks("sh").size() != 2) {
            wrongs.add("the blocks of README.md are not those that this test knows");
            return wrongs;
        }
        String printed = run(blocks("sh").get(0), wrongs);
        if (!printed.equals(blocks("text").get(0))) {
            wrongs.add("printed is\n" + printed + "README.md says\n" + blocks("text").get(0));
        }
        return wrongs;
    }

    private static List<String> commandWrongs() throws IOException, InterruptedException {
        List<String> wrongs = new ArrayList<>();
        String printed = run(blocks("sh").get(1), wrongs);
        if (!printed.contains(" passed, 0 failed")) {
            wrongs.add("the tests by hand print\n" + printed);
        }
        return wrongs;
    }

    // ---- the names

    private static List<String> methodWrongs() throws IOException {
        List<String> wrongs = new ArrayList<>();
        for (Method method : RumourHives.class.getDeclaredMethods()) {
            if (Modifier.isPublic(method.getModifiers()) && !readme().contains("`" + method.getName() + "`")) {
                wrongs.add("README.md does not name " + method.getName());
            }
        }
        return wrongs;
    }

    private static List<String> testWrongs() throws IOException {
        List<String> wrongs = new ArrayList<>();
        try (Stream<Path> files = Files.list(PROJECT.resolve("src/test/java"))) {
            for (Path file : (Iterable<Path>) files::iterator) {
                String name = file.getFileName().toString().replace(".java", "");
                if (!readme().contains("`" + name + "`")) {
                    wrongs.add("README.md does not name " + name);
                }
            }
        }
        return wrongs;
    }

    private static List<String> pathWrongs() throws IOException {
        List<String> wrongs = new ArrayList<>();
        Matcher matcher = Pattern.compile("`([\\w./]+/[\\w./]+)`").matcher(readme());
        int found = 0;
        while (matcher.find()) {
            found++;
            if (!Files.exists(PROJECT.resolve(matcher.group(1)))) {
                wrongs.add("there is no " + matcher.group(1));
            }
        }
        if (found == 0) {
            wrongs.add("no path was found");
        }
        return wrongs;
    }

    private static List<String> scriptWrongs() throws IOException {
        List<String> wrongs = new ArrayList<>();
        if (!readme().contains("\n    .ci/run\n") || !Files.isExecutable(PROJECT.resolve(".ci/run"))) {
            wrongs.add(".ci/run is not told, or cannot be run");
        }
        return wrongs;
    }

    public static void main(String[] args) throws IOException, InterruptedException {
        test("the example prints what is written", ReadmeTests::exampleWrongs);
        test("the tests by hand", ReadmeTests::commandWrongs);
        test("every call is named", ReadmeTests::methodWrongs);
        test("every test is named", ReadmeTests::testWrongs);
        test("every path is there", ReadmeTests::pathWrongs);
        test("the command of all tests", ReadmeTests::scriptWrongs);
        System.out.println(passed + " passed, " + failed + " failed");
        if (failed != 0) {
            System.exit(1);
        }
    }
}
