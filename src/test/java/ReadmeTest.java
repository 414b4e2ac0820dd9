import java.io.IOException;
import java.lang.reflect.Method;
import java.lang.reflect.Modifier;
import java.nio.file.Files;
import java.nio.file.Path;
import java.util.ArrayList;
import java.util.Comparator;
import java.util.List;
import java.util.Set;
import java.util.TreeSet;
import java.util.regex.Matcher;
import java.util.regex.Pattern;
import java.util.stream.Stream;

/** What README.md shows compiles and runs as it says; it names each call and each test. */
public final class ReadmeTest {
    private static final Path README = Path.of("README.md");
    private static final Path TESTS = Path.of("src/test/java");

    private static final Check check = new Check("ReadmeTest");

    public static void main(String[] args) throws IOException, InterruptedException {
        String readme = Files.readString(README);
        List<String> commands = blocks(readme, "sh");
        check.due("blocks of commands", commands.size(), 3);
        Path place = copyOfTheProject();
        try {
            Files.writeString(place.resolve("Example.java"), blocks(readme, "java").get(0));
            check.due("the example prints", run(place, commands.get(0)), blocks(readme, "text").get(0));
            check.due("all tests", Files.isExecutable(Path.of(commands.get(1).strip())), true);
            check.due("one test", run(place, commands.get(2)).endsWith(" checks, 0 not as due\n"), true);
        } finally {
            remove(place);
        }
        namesEachCall(readme);
        namesEachTest(readme);
        check.end();
    }

    private static List<String> blocks(String readme, String kind) {
        List<String> found = new ArrayList<>();
        Matcher blocks = Pattern.compile("(?ms)^```" + kind + "\\n(.*?)^```$").matcher(readme);
        while (blocks.find()) {
            found.add(blocks.group(1));
        }
        return found;
    }

    /** A copy, so that what the commands write is not left among the project's files. */
    private static Path copyOfTheProject() throws IOException {
        Path place = Files.createTempDirectory("readme");
        for (Path file : within(Path.of("src"))) {
            if (Files.isRegularFile(file)) {
                Path copy = place.resolve(file.toString());
                Files.createDirectories(copy.getParent());
                Files.copy(file, copy);
            }
        }
        return place;
    }

    private static void remove(Path place) throws IOException {
        List<Path> files = within(place);
        files.sort(Comparator.reverseOrder());
        for (Path file : files) {
            Files.delete(file);
        }
    }

    private static List<Path> within(Path place) throws IOException {
        try (Stream<Path> files = Files.walk(place)) {
            return new ArrayList<>(files.toList());
        }
    }

    private static String run(Path place, String commands) throws IOException, InterruptedException {
        Process process = new ProcessBuilder("sh", "-e", "-c", commands).directory(place.toFile())
                .redirectErrorStream(true).start();
        String printed = new String(process.getInputStream().readAllBytes());
        int code = process.waitFor();
        return code == 0 ? printed : printed + "exit code " + code;
    }

    private static void namesEachCall(String readme) {
        for (Method method : EchoChamber.class.getDeclaredMethods()) {
            if (Modifier.isPublic(method.getModifiers())) {
                check.due("names " + method.getName(), readme.contains("`" + method.getName() + "`"), true);
            }
        }
    }

    private static void namesEachTest(String readme) {
        Set<String> named = new TreeSet<>();
        Matcher names = Pattern.compile("`(\\w+Test)`").matcher(readme);
        while (names.find()) {
            named.add(names.group(1));
        }
        Set<String> there = new TreeSet<>();
        for (String file : TESTS.toFile().list()) {
            if (file.endsWith("Test.java")) {
                there.add(file.substring(0, file.length() - ".java".length()));
            }
        }
        check.due("the tests named", named, there);
    }
}
