import java.io.ByteArrayOutputStream;
import java.io.IOException;
import java.io.PrintStream;
import java.lang.reflect.Method;
import java.lang.reflect.Modifier;
import java.nio.charset.StandardCharsets;
import java.nio.file.Files;
import java.nio.file.Path;

/** What README.md says of the use of the class holds as it is printed there. */
final class ReadmeTest {
    private ReadmeTest() {
    }

    static void run() {
        String readme = text("README.md");
        exampleIsTheProgram(readme);
        exampleAnswersAsPrinted(readme);
        eachCallIsNamed(readme);
    }

    /** Paths are told from the project's directory, in which .ci/run runs the tests. */
    static String text(String path) {
        try {
            return Files.readString(Path.of(path)).replace("\r\n", "\n");
        } catch (IOException e) {
            Checks.yes(path + " is read", false);
            return "";
        }
    }

    private static void exampleIsTheProgram(String readme) {
        Checks.yes("README: the example is Example.java",
                block(readme, "java").equals(text("src/test/java/Example.java")));
    }

    private static void exampleAnswersAsPrinted(String readme) {
        String printed = printed();
        Checks.yes("README: the example prints what is told, but not:\n" + printed,
                block(readme, "text").equals(printed));
        // The same once more, told here, as a README and an example could be changed together.
        String[] due = {"high water at minute 100, 500 cm", "low water at minute 472, 100 cm",
            "high water at minute 845, 500 cm", "low water at minute 1217, 100 cm", "correction 15",
            "trusts 6 and 4, correction 14", "4 lines painted, unreadable 8", "line 3 touched up, right true",
            "line 0 says minute 114", "day 7, unreadable 15", "there is no pier 1"};
        Checks.yes("README: the example's answers", printed.equals(String.join("\n", due) + "\n"));
    }

    private static String printed() {
        PrintStream console = System.out;
        ByteArrayOutputStream bytes = new ByteArrayOutputStream();
        try {
            System.setOut(new PrintStream(bytes, true, StandardCharsets.UTF_8));
            Example.main(new String[0]);
        } finally {
            System.setOut(console);
        }
        return bytes.toString(StandardCharsets.UTF_8).replace("\r\n", "\n");
    }

    private static void eachCallIsNamed(String readme) {
        String calls = part(readme, "### The calls", "## Tests");
        for (Method m : TideTablePainters.class.getDeclaredMethods()) {
            if (Modifier.isPublic(m.getModifiers())) {
                Checks.yes("README: names " + m.getName(), calls.contains("`" + m.getName() + "(")
                        || calls.contains("`" + m.getName() + "`"));
            }
        }
    }

    /** The first block of this language; it is empty if there is none. */
    private static String block(String readme, String language) {
        return part(readme, "```" + language + "\n", "```\n");
    }

    private static String part(String readme, String start, String end) {
        int from = readme.indexOf(start);
        int to = from < 0 ? -1 : readme.indexOf(end, from + start.length());
        return to < 0 ? "" : readme.substring(from + start.length(), to);
    }
}
