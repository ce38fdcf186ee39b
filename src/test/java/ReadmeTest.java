import java.io.ByteArrayOutputStream;
import java.io.IOException;
import java.io.PrintStream;
import java.nio.file.Files;
import java.nio.file.Path;
import java.util.ArrayList;
import java.util.List;
import java.util.regex.Matcher;
import java.util.regex.Pattern;

/** README.md shows code of Example, and what that prints: neither may say what the other does not. */
public final class ReadmeTest {
    private ReadmeTest() {
    }

    public static void main(String[] args) throws IOException {
        String readme = Files.readString(Path.of("README.md"));
        String example = withoutIndent(Files.readString(Path.of("src/test/java/Example.java")));
        List<String> code = blocks(readme, "java");
        Hall.due("some code in README.md", 1, code.isEmpty() ? 0 : 1);
        for (String block : code) {
            Hall.due("in Example: " + block, 1, example.contains(withoutIndent(block)) ? 1 : 0);
        }
        String rest = printed();
        List<String> shown = blocks(readme, "text");
        Hall.due("some answers in README.md", 1, shown.isEmpty() ? 0 : 1);
        for (String block : shown) {
            Hall.due("printed by Example: " + block, 1, rest.contains(block) ? 1 : 0);
            rest = rest.replace(block, "");
        }
        Hall.due("printed by Example, not in README.md", "", rest);
        namesEveryTest(readme);
        Hall.end("ReadmeTest");
    }

    private static List<String> blocks(String text, String kind) {
        List<String> found = new ArrayList<>();
        Matcher matcher = Pattern.compile("(?ms)^```" + kind + "\n(.*?)^```$").matcher(text);
        while (matcher.find()) {
            found.add(matcher.group(1));
        }
        return found;
    }

    private static String withoutIndent(String text) {
        return text.replaceAll("(?m)^ +", "");
    }

    private static String printed() {
        PrintStream out = System.out;
        ByteArrayOutputStream caught = new ByteArrayOutputStream();
        System.setOut(new PrintStream(caught, true));
        try {
            Example.main(new String[0]);
        } finally {
            System.setOut(out);
        }
        return caught.toString().replace(System.lineSeparator(), "\n");
    }

    private static void namesEveryTest(String readme) throws IOException {
        try (var files = Files.newDirectoryStream(Path.of("src/test/java"), "*Test.java")) {
            for (Path file : files) {
                String name = file.getFileName().toString().replace(".java", "");
                Hall.due("README.md names " + name, 1, readme.contains("`" + name + "`") ? 1 : 0);
            }
        }
    }
}
