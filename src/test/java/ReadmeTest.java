import java.io.File;
import java.io.IOException;
import java.lang.reflect.Method;
import java.lang.reflect.Modifier;
import java.nio.file.Files;
import java.nio.file.LinkOption;
import java.nio.file.Path;
import java.util.ArrayList;
import java.util.Arrays;
import java.util.Collections;
import java.util.List;
import java.util.regex.Matcher;
import java.util.regex.Pattern;

/** What README.md says of using the class and of running its tests is so. */
public final class ReadmeTest {
    private static final Path README = Path.of("README.md");
    private static final Path OWN_TESTS = Path.of("src/test/java");
    private static final Path SHARED_TESTS = Path.of("../shared/tests");
    private static final String ALL_TESTS = ".ci/run";

    private ReadmeTest() {
    }

    public static void main(String[] args) throws IOException, InterruptedException {
        String text = Files.readString(README);
        calls(text);
        tests(text);
        Path room = Files.createTempDirectory("readme");
        try {
            commands(text, roomLikeThis(room, text));
        } finally {
            empty(room);
        }
        Check.finish();
    }

    private static List<String> blocks(String text, String sort) {
        return found("(?ms)^```" + sort + "\\n(.*?)^```$", text);
    }

    private static List<String> found(String pattern, String text) {
        List<String> all = new ArrayList<>();
        Matcher m = Pattern.compile(pattern).matcher(text);
        while (m.find()) {
            all.add(m.group(1));
        }
        return all;
    }

    private static void same(String what, List<String> got, List<String> want) {
        Check.must(got.equals(want), what + " are " + got + ", due are " + want);
    }

    private static List<String> sorted(List<String> all) {
        Collections.sort(all);
        return all;
    }

    /** The table names each call of the class once. */
    private static void calls(String text) {
        List<String> named = new ArrayList<>();
        for (String line : found("(?m)^\\| (.*) \\|$", text)) {
            named.addAll(found("`(\\w+)`", line));
        }
        List<String> there = new ArrayList<>();
        for (Method m : ReadOutAlongTheWay.class.getDeclaredMethods()) {
            if (Modifier.isPublic(m.getModifiers())) {
                there.add(m.getName());
            }
        }
        same("the calls of the table", sorted(named), sorted(there));
    }

    /** The list names each test once, and says how all are run. */
    private static void tests(String text) {
        List<String> there = new ArrayList<>();
        for (File file : javaFiles(OWN_TESTS)) {
            if (file.getName().endsWith("Test.java")) {
                there.add(file.getName().replace(".java", ""));
            }
        }
        same("the tests of the list", sorted(found("(?m)^- `(\\w+Test)`:", text)), sorted(there));
        Check.must(blocks(text, "sh").contains(ALL_TESTS + "\n"), "there is no " + ALL_TESTS);
        Check.must(Files.isExecutable(Path.of(ALL_TESTS)), ALL_TESTS + " can't be run");
    }

    private static File[] javaFiles(Path directory) {
        File[] files = directory.toFile().listFiles((d, name) -> name.endsWith(".java"));
        Check.must(files != null && files.length > 0, "no tests under " + directory);
        if (files == null) {
            return new File[0];
        }
        Arrays.sort(files);
        return files;
    }

    /** A directory in which the commands find all as in this one, and where what they make is in no one's way. */
    private static Path roomLikeThis(Path room, String text) throws IOException {
        Path here = Files.createDirectory(room.resolve("main"));
        Files.createSymbolicLink(here.resolve("src"), Path.of("src").toAbsolutePath());
        Files.createSymbolicLink(room.resolve("shared"), SHARED_TESTS.toAbsolutePath().getParent());
        List<String> examples = blocks(text, "java");
        Check.due("how many examples there are", examples.size(), 1);
        Files.writeString(here.resolve("Example.java"), String.join("", examples));
        return here;
    }

    private static void commands(String text, Path here) throws IOException, InterruptedException {
        boolean example = false;
        for (String line : String.join("", blocks(text, "sh")).split("\n")) {
            boolean isJava = line.startsWith("javac ") || line.startsWith("java ");
            Check.must(isJava || line.equals(ALL_TESTS), line + " is another command");
            if (!isJava) {
                continue;
            }
            List<String> said = ran(line, here);
            if (line.equals("java -cp build Example")) {
                example = true;
                same("the answers of the example", said, found("// (-?\\d+): ", text));
            }
        }
        Check.must(example, "the example isn't run");
    }

    /** What a command prints; it has to end well. */
    private static List<String> ran(String line, Path here) throws IOException, InterruptedException {
        Path said = Files.createTempFile(here, "said", ".txt");
        Process process = new ProcessBuilder(spelledOut(line)).directory(here.toFile())
            .redirectErrorStream(true).redirectOutput(said.toFile()).start();
        int code = process.waitFor();
        List<String> lines = Files.readAllLines(said);
        Check.must(code == 0, line + " ended with " + code + " and said " + lines);
        return lines;
    }

    /** The words of a command, with files for a star as a shell would have it. */
    private static List<String> spelledOut(String line) {
        List<String> words = new ArrayList<>();
        for (String word : line.split(" ")) {
            if (word.endsWith("/*.java")) {
                Path directory = Path.of(word.substring(0, word.length() - "/*.java".length()));
                for (File file : javaFiles(directory)) {
                    words.add(file.getPath());
                }
            } else {
                words.add(word);
            }
        }
        return words;
    }

    /** Takes links away, not what they lead to. */
    private static void empty(Path path) throws IOException {
        if (Files.isDirectory(path, LinkOption.NOFOLLOW_LINKS)) {
            File[] inside = path.toFile().listFiles();
            for (File file : inside == null ? new File[0] : inside) {
                empty(file.toPath());
            }
        }
        Files.delete(path);
    }
}
