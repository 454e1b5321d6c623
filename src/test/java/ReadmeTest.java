import java.io.ByteArrayOutputStream;
import java.io.IOException;
import java.io.PrintStream;
import java.lang.reflect.Method;
import java.lang.reflect.Modifier;
import java.nio.charset.StandardCharsets;
import java.nio.file.Files;
import java.nio.file.Path;

/** README.md names every call, and its example is the one that runs, and prints what the page says. */
public final class ReadmeTest {
    public static void main(String[] args) throws IOException {
        Check check = new Check("ReadmeTest");
        String page = read("README.md");
        String use = section(page, "## Use\n");
        for (Method m : BurntWays.class.getDeclaredMethods()) {
            if (Modifier.isPublic(m.getModifiers())) {
                check.due("the page names " + m.getName(), namesCall(use, m), true);
            }
        }
        check.due("the example is Example.java", block(use, "java").equals(read("src/test/java/Example.java")), true);
        check.due("it prints what the page says", block(use, "text").equals(printed()), true);
        check.due("the page tells how the tests are run", section(page, "## Tests\n").contains("    .ci/run\n"), true);
        check.end();
    }

    private static String read(String file) throws IOException {
        return Files.readString(Path.of(file), StandardCharsets.UTF_8);
    }

    /** What stands below a heading, up to the next one of its kind. */
    private static String section(String page, String heading) {
        int from = page.indexOf(heading);
        if (from < 0) {
            return "";
        }
        int to = page.indexOf("\n## ", from + heading.length());
        return page.substring(from + heading.length(), to < 0 ? page.length() : to + 1);
    }

    /** The call stands there with as many numbers as it has. */
    private static boolean namesCall(String text, Method m) {
        String call = "`" + m.getName() + "(";
        int from = text.indexOf(call);
        if (from < 0) {
            return false;
        }
        String numbers = text.substring(from + call.length(), text.indexOf(")", from));
        return (numbers.isEmpty() ? 0 : numbers.split(", ").length) == m.getParameterCount();
    }

    /** The first block of a kind. */
    private static String block(String text, String kind) {
        String fence = "```" + kind + "\n";
        int from = text.indexOf(fence);
        int to = text.indexOf("```\n", from + fence.length());
        return from < 0 || to < 0 ? "there is none" : text.substring(from + fence.length(), to);
    }

    private static String printed() {
        PrintStream before = System.out;
        ByteArrayOutputStream bytes = new ByteArrayOutputStream();
        System.setOut(new PrintStream(bytes, true, StandardCharsets.UTF_8));
        Example.main(new String[0]);
        System.setOut(before);
        return bytes.toString(StandardCharsets.UTF_8).replace(System.lineSeparator(), "\n");
    }
}
