import java.io.IOException;
import java.lang.reflect.Method;
import java.lang.reflect.Modifier;
import java.nio.file.Files;
import java.nio.file.Path;
import java.util.List;
import java.util.regex.Matcher;
import java.util.regex.Pattern;
import java.util.stream.Stream;

/** README.md's run of calls answers as it says there, and it names every call and every test. */
public final class ReadmeTest {
    private static final Pattern TEXT = Pattern.compile("for \\(char c : \"(.*)\"\\.toCharArray\\(\\)\\) \\{");
    private static final Pattern CALL = Pattern.compile("x\\.(\\w+\\(.*\\)); +// (-?\\d+): .+");
    private static final int FEWEST_CALLS = 20;
    private static final Check C = new Check("ReadmeTest");

    public static void main(String[] args) throws IOException {
        String page = Files.readString(Path.of("README.md"));
        answersAreAsTold(page.substring(page.indexOf("```java"), page.lastIndexOf("```")).lines().toList());
        callsAreNamed(page);
        constantsAreTold(page);
        testsAreNamed(page);
        C.finish();
    }

    private static void answersAreAsTold(List<String> lines) {
        GloveAbout x = new GloveAbout();
        int calls = 0;
        for (String line : lines) {
            Matcher text = TEXT.matcher(line);
            Matcher call = CALL.matcher(line);
            if (text.matches()) {
                Check.feedAll(x, text.group(1));
            } else if (call.matches()) {
                C.due(call.group(1), Play.answerOf(x, call.group(1)), Long.parseLong(call.group(2)));
                calls++;
            } else {
                C.holds("known: " + line, line.matches("```java|GloveAbout x = new GloveAbout\\(\\);| +x\\.feed\\(c\\);|\\}"));
            }
        }
        C.holds("calls with answers", calls >= FEWEST_CALLS);
    }

    private static void callsAreNamed(String page) {
        for (Method method : GloveAbout.class.getDeclaredMethods()) {
            if (Modifier.isPublic(method.getModifiers())) {
                String numbers = method.getParameterCount() == 0 ? "" : "[a-z]+(, [a-z]+){" + (method.getParameterCount() - 1) + "}";
                C.holds(method + " is named with its numbers",
                    Pattern.compile("`" + method.getName() + "\\(" + numbers + "\\)`").matcher(page).find());
            }
        }
    }

    private static void constantsAreTold(String page) {
        C.holds("BAD", page.contains("| `BAD` | " + GloveAbout.BAD + " |"));
        C.holds("STATE", page.contains("| `STATE` | " + GloveAbout.STATE + " |"));
        C.holds("FULL", page.contains("| `FULL` | " + GloveAbout.FULL + " |"));
        C.holds("NONE", page.contains("| `NONE` | " + GloveAbout.NONE + " |"));
    }

    private static void testsAreNamed(String page) throws IOException {
        try (Stream<Path> files = Files.list(Path.of("src/test/java"))) {
            files.map(file -> file.getFileName().toString()).filter(name -> name.endsWith("Test.java")).forEach(name ->
                C.holds(name + " is named", page.contains("`" + name.replace(".java", "") + "`")));
        }
    }
}
