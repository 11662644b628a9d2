import java.io.IOException;
import java.lang.reflect.Method;
import java.lang.reflect.Modifier;
import java.nio.file.Files;
import java.nio.file.Path;
import java.util.regex.Matcher;
import java.util.regex.Pattern;

/** README.md: the calls that it shows answer what it says, and it names each call of the face. */
public final class ReadmeTest {
    private static final Path README = Path.of("README.md");
    private static final Pattern LINE =
            Pattern.compile("books[.](\\w+[(].*[)]);\\s+// ([^:]+)(?::.*)?");

    public static void main(String[] args) throws IOException {
        String text = Files.readString(README);
        answersAsShown(block(text, "java"));
        for (Method method : Arrivalbooks.class.getDeclaredMethods()) {
            if (Modifier.isPublic(method.getModifiers())) {
                Expect.due("README.md names " + method.getName(),
                        text.contains("`" + method.getName() + "`"), true);
            }
        }
        Expect.due("README.md says how to run the tests", text.contains("bash .ci/run"), true);
        Expect.finish("ReadmeTest");
    }

    private static String block(String text, String language) {
        int from = text.indexOf("```" + language + "\n");
        int end = text.indexOf("```\n", from + 1);
        Expect.due("README.md has a block of " + language, from >= 0 && end > from, true);
        return from >= 0 && end > from ? text.substring(text.indexOf('\n', from) + 1, end) : "";
    }

    private static void answersAsShown(String shown) {
        String[] lines = shown.split("\n");
        Expect.due("the first line", lines[0], "Arrivalbooks books = new Arrivalbooks();");
        Run run = Run.with();
        for (int i = 1; i < lines.length; i++) {
            Matcher line = LINE.matcher(lines[i]);
            boolean isCall = line.matches();
            Expect.due("a call with its answer: " + lines[i], isCall || lines[i].isEmpty(), true);
            if (isCall) {
                answers(run, line.group(1).replace("Arrivalbooks.", ""), line.group(2));
            }
        }
    }

    private static void answers(Run run, String call, String shown) {
        if (shown.startsWith("throws ")) {
            run.refused(call, shown.substring("throws ".length()));
        } else {
            run.due(call, shown);
        }
    }
}
