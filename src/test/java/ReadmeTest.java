import java.io.IOException;
import java.lang.reflect.Method;
import java.lang.reflect.Modifier;
import java.nio.file.Files;
import java.nio.file.Path;
import java.util.regex.Matcher;
import java.util.regex.Pattern;

/** README.md holds: its calls answer what stands behind them, and it names every call once. */
public final class ReadmeTest {
    private static final Pattern ASKED = Pattern.compile("x\\.(\\w+\\([^;]*\\)); +// (\\S+)");

    private static String between(String text, String from, String to) {
        int at = text.indexOf(from) + from.length();
        return text.substring(at, text.indexOf(to, at));
    }

    private static void calls(Due due, String example) {
        String text = between(example, "String text = \"", "\"");
        SlowNoon x = new SlowNoon();
        Due.feed(x, text + " ".repeat(80 - text.length()));
        for (String line : example.split("\n")) {
            Matcher m = ASKED.matcher(line);
            if (m.find()) {
                String step = m.group(1).replace("text.length()", "" + text.length()) + " " + m.group(2);
                due.due("README: " + step, Edges.ask(x, step), Long.parseLong(m.group(2)));
            }
        }
    }

    private static void names(Due due, String readme) {
        for (Method m : SlowNoon.class.getDeclaredMethods()) {
            if (Modifier.isPublic(m.getModifiers())) {
                Matcher row = Pattern.compile("(?m)^\\|.*`" + m.getName() + "`").matcher(readme);
                due.due("README has a row that names " + m.getName(), row.results().count() > 0 ? 1 : 0, 1);
            }
        }
    }

    public static void main(String[] args) throws IOException {
        String readme = Files.readString(Path.of("README.md"));
        Due due = new Due();
        calls(due, between(readme, "```java\n", "```"));
        names(due, readme);
        due.close("ReadmeTest");
    }
}
