import java.io.IOException;
import java.nio.file.DirectoryStream;
import java.nio.file.Files;
import java.nio.file.Path;
import java.lang.reflect.Method;
import java.lang.reflect.Modifier;
import java.util.regex.Matcher;
import java.util.regex.Pattern;

/** README.md says how to use the class: its example answers as it says. Runs in the project's folder, as .ci/run does. */
public final class ReadmeTest {
    private static final Pattern TEXT = Pattern.compile("String text = \"([^\"]*)\";");
    private static final Pattern LINE = Pattern.compile("\ncook\\.(\\w+\\([^)\n]*\\)); +// (-?\\d+): ");

    private static void theExampleAnswersAsItSays(String page) {
        Matcher text = TEXT.matcher(page);
        Check.holds("the example has a text", text.find());
        Run run = new Run().typed(text.group(1));
        Matcher line = LINE.matcher(page);
        int lines = 0;
        while (line.find()) {
            Check.due("README: " + line.group(1), run.get(line.group(1)), Integer.parseInt(line.group(2)));
            lines++;
        }
        // A line that is set in another way would go unread.
        Check.due("lines with an answer", lines, page.split("\ncook\\.", -1).length - 1);
        Check.holds("there are some", lines > 0);
    }

    private static void everyCallIsNamed(String page) {
        for (Method method : TastelessCook.class.getDeclaredMethods()) {
            if (Modifier.isPublic(method.getModifiers())) {
                Pattern call = Pattern.compile("\\| .*`" + method.getName() + "\\(([^)]*)\\)`.* \\|");
                Matcher matcher = call.matcher(page);
                boolean found = matcher.find();
                Check.holds("README names " + method.getName(), found);
                String arguments = found ? matcher.group(1) : "";
                int many = arguments.isEmpty() ? 0 : arguments.split(",").length;
                Check.due("README: arguments of " + method.getName(), many, method.getParameterCount());
            }
        }
    }

    private static void everyTestIsNamed(String page) throws IOException {
        try (DirectoryStream<Path> files = Files.newDirectoryStream(Path.of("src/test/java"), "*Test.java")) {
            for (Path file : files) {
                String name = file.getFileName().toString().replace(".java", "");
                Check.holds("README names " + name, page.contains("`" + name + "`"));
            }
        }
        Check.holds("README says how to run them", page.contains("\nbash .ci/run\n"));
    }

    public static void main(String[] args) throws IOException {
        String page = Files.readString(Path.of("README.md"));
        theExampleAnswersAsItSays(page);
        everyCallIsNamed(page);
        everyTestIsNamed(page);
        Check.finish("ReadmeTest");
    }
}
