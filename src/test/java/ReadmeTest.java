import java.io.IOException;
import java.lang.reflect.Method;
import java.lang.reflect.Modifier;
import java.nio.file.DirectoryStream;
import java.nio.file.Files;
import java.nio.file.Path;
import java.util.regex.Matcher;
import java.util.regex.Pattern;

/** README.md says how to use the class and how to run its tests: what it says is so, and it leaves nothing out. */
public final class ReadmeTest {
    private static final Checks CHECKS = new Checks("ReadmeTest");
    private static final Pattern BLOCK = Pattern.compile("(?s)```java\n(.*?)```");
    private static final Pattern ROW = Pattern.compile("tree\\.(\\w+\\([^)]*\\)); *// (-?\\d+)(:.*)?");

    public static void main(String[] args) throws IOException {
        String text = Files.readString(Path.of("README.md"));
        examples(text);
        calls(text);
        tests(text);
        CHECKS.end();
    }

    private static void examples(String text) {
        Matcher block = BLOCK.matcher(text);
        int seen = 0;
        while (block.find()) {
            seen++;
            example("example " + seen, block.group(1));
        }
        CHECKS.that("there are examples", seen >= 3);
    }

    private static void example(String name, String rows) {
        Story story = new Story(CHECKS, name);
        for (String line : rows.split("\n")) {
            Matcher row = ROW.matcher(line);
            if (row.matches()) {
                story.row(row.group(1), Integer.parseInt(row.group(2)));
            } else {
                CHECKS.that(name + ": " + line, line.equals("ServiceTree tree = new ServiceTree();"));
            }
        }
        story.end();
    }

    private static void calls(String text) {
        for (Method m : ServiceTree.class.getDeclaredMethods()) {
            if (Modifier.isPublic(m.getModifiers())) {
                Matcher call = Pattern.compile("\\| `" + m.getName() + "\\(([^)]*)\\)` \\|").matcher(text);
                CHECKS.that("it names " + m.getName(), call.find());
                CHECKS.due("arguments of " + m.getName(), call.group(1).isEmpty() ? 0 : call.group(1).split(",").length,
                    m.getParameterCount());
            }
        }
    }

    private static void tests(String text) throws IOException {
        CHECKS.that("it says how to run them", text.contains("`.ci/run`"));
        try (DirectoryStream<Path> files = Files.newDirectoryStream(Path.of("src/test/java"), "*Test.java")) {
            for (Path file : files) {
                String name = file.getFileName().toString().replace(".java", "");
                CHECKS.that("it names " + name, text.contains("| " + name + " |"));
            }
        }
    }
}
