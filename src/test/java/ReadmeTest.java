import java.io.ByteArrayOutputStream;
import java.io.IOException;
import java.io.PrintStream;
import java.nio.charset.StandardCharsets;
import java.nio.file.Files;
import java.nio.file.Path;
import java.util.ArrayList;
import java.util.List;
import java.util.stream.Stream;

/** README.md shows Example.java as it is, the answers in it are the program's, and it names every test. */
public final class ReadmeTest {
    private static final Path README = Path.of("README.md");
    private static final Path TESTS = Path.of("src", "test", "java");

    public static void main(String[] args) throws IOException {
        List<String> readme = Files.readAllLines(README, StandardCharsets.UTF_8);
        List<String> example = Files.readAllLines(TESTS.resolve("Example.java"), StandardCharsets.UTF_8);
        Due.due("the example in README.md", block(readme, "```java"), example);
        Due.due("the answers of the example", answers(), told(example));
        Due.due("the command that runs the tests", readme.contains(".ci/run"), true);
        eachTestIsNamed(String.join("\n", readme));
        Due.close();
    }

    /** The lines of the first block that the fence opens. */
    private static List<String> block(List<String> lines, String fence) {
        int start = lines.indexOf(fence) + 1;
        List<String> rest = lines.subList(start, lines.size());
        int length = rest.indexOf("```");
        return length < 0 ? List.of() : rest.subList(0, length);
    }

    /** What stands behind each print, without what is told of it behind a comma and a space. */
    private static List<String> told(List<String> example) {
        List<String> all = new ArrayList<>();
        for (String line : example) {
            if (line.contains("System.out.println(")) {
                int comment = line.indexOf(" // ");
                Due.due("an answer stands behind " + line.strip(), comment > 0, true);
                all.add(comment > 0 ? line.substring(comment + 4).split(", ")[0] : "");
            }
        }
        return all;
    }

    private static List<String> answers() {
        PrintStream before = System.out;
        ByteArrayOutputStream printed = new ByteArrayOutputStream();
        System.setOut(new PrintStream(printed, true, StandardCharsets.UTF_8));
        try {
            Example.main(new String[0]);
        } finally {
            System.setOut(before);
        }
        return printed.toString(StandardCharsets.UTF_8).lines().toList();
    }

    private static void eachTestIsNamed(String readme) throws IOException {
        try (Stream<Path> files = Files.list(TESTS)) {
            for (String name : files.map(file -> file.getFileName().toString()).sorted().toList()) {
                if (name.endsWith("Test.java")) {
                    String test = name.substring(0, name.length() - ".java".length());
                    Due.due("README.md names " + test, readme.contains("`" + test + "`"), true);
                }
            }
        }
    }
}
