import java.io.IOException;
import java.nio.file.Files;
import java.nio.file.Path;
import java.util.regex.Matcher;
import java.util.regex.Pattern;

/**
 * Prints a test, ReadmeRun, that is made of the java code in README.md: .ci/run compiles and runs it, so that the
 * page can't say what the class does not. A block that begins with static is a method; the others are the example.
 */
public final class ReadmeExample {
    private static final Pattern BLOCK = Pattern.compile("(?s)```java\n(.*?)```");
    private static final Pattern CALL = Pattern.compile("(\\w+\\.\\w+\\(.*\\)); *// (-?\\d+|true|false)(:.*)?");
    private static final Pattern BARE_CALL = Pattern.compile("\\w+\\.\\w+\\(.*");

    public static void main(String[] args) throws IOException {
        StringBuilder methods = new StringBuilder();
        StringBuilder example = new StringBuilder();
        Matcher block = BLOCK.matcher(Files.readString(Path.of("README.md")));
        while (block.find()) {
            if (block.group(1).startsWith("static ")) {
                methods.append(block.group(1));
            } else {
                block.group(1).lines().forEach(line -> example.append(asTest(line)).append("\n"));
            }
        }
        if (example.indexOf("due.is(") < 0) {
            throw new IllegalStateException("README.md has no example");
        }
        System.out.println("public final class ReadmeRun {\n" + methods + "public static void main(String[] args) {\n"
            + "Due due = new Due();\ndue.sentence(\"README.md\");\n" + example + "due.end();\n}\n}");
    }

    private static String asTest(String line) {
        Matcher call = CALL.matcher(line);
        if (call.matches()) {
            String name = call.group(1).replace("\"", "'");
            return "due.is(\"" + name + "\", " + call.group(1) + ", " + call.group(2) + ");";
        }
        if (BARE_CALL.matcher(line).matches()) {
            throw new IllegalStateException("README.md gives no answer: " + line);
        }
        return line;
    }
}
