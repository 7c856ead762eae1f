import java.lang.reflect.Method;
import java.lang.reflect.Modifier;
import java.nio.file.Files;
import java.nio.file.Path;
import java.util.Set;
import java.util.TreeSet;
import java.util.regex.Matcher;
import java.util.regex.Pattern;

/** README.md shows every call of the face, in one run, with what it answers. */
public final class ReadmeTest {
    private static final Path README = Path.of("README.md");
    private static final String MAKING = "RegularRally rally = new RegularRally();";
    private static final Pattern BLOCK = Pattern.compile("(?s)```java\n(.*?)```");
    private static final Pattern CALL =
        Pattern.compile("rally\\.((\\w+)\\([^)]*\\)); +// (-?\\d+|LOST): .+");

    private static final Run RUN = new Run();
    private static final Set<String> SHOWN = new TreeSet<>();

    public static void main(String[] args) throws Exception {
        String text = Files.readString(README).replace("\r", "");
        Due.due("how many objects the run is on", text.split(Pattern.quote(MAKING), -1).length - 1, 1);
        Matcher block = BLOCK.matcher(text);
        while (block.find()) {
            block.group(1).lines().filter(line -> !line.equals(MAKING)).forEach(ReadmeTest::line);
        }
        everyCallIsShown();
        Due.end();
    }

    private static void line(String line) {
        Matcher call = CALL.matcher(line);
        boolean isCall = call.matches();
        Due.holds("a call with what it answers: " + line, isCall);
        if (isCall) {
            SHOWN.add(call.group(2));
            RUN.then(call.group(1) + " " + call.group(3));
        }
    }

    private static void everyCallIsShown() {
        for (Method method : RegularRally.class.getDeclaredMethods()) {
            if (Modifier.isPublic(method.getModifiers())) {
                Due.holds("README.md shows " + method.getName(), SHOWN.contains(method.getName()));
            }
        }
    }
}
