import java.io.IOException;
import java.nio.charset.StandardCharsets;
import java.nio.file.Files;
import java.nio.file.Path;
import java.util.List;
import java.util.regex.Matcher;
import java.util.regex.Pattern;

/** What can be seen of ../shared/LANGUAGE.md by looking at the file (run from the project's folder). */
public final class LanguageTest {
    private static final Path SOURCE = Path.of("src/main/java/GloveAbout.java");
    private static final String[] NOT_THERE = {"\\bthrow\\b", "\\btry\\b", "\\bcatch\\b", "\\bsynchronized\\b",
        "\\bassert\\b", "\\bprotected\\b", "\\bpackage\\b", "->", "::", "Exact\\b", "\\bObject\\b", "\\binstanceof\\b",
        "\\bHash", "\\bMap\\b", "\\bThread\\b", "\\bnanoTime\\b", "\\bcurrentTimeMillis\\b", "\\bRandom\\b",
        "\\bhashCode\\b", "\\btoString\\b", "\\bstatic\\s*\\{", "\"\\s*\\+", "\\+\\s*\"", "\\bnew \\w+\\(\\)\\s*\\{",
        "\\bfor \\(;;", "\\bwhile \\(true"};
    private static final Check C = new Check("LanguageTest");

    public static void main(String[] args) throws IOException {
        String text = Files.readString(SOURCE, StandardCharsets.ISO_8859_1);
        C.holds("only signs 1 to 127", text.chars().allMatch(c -> c > 0 && c < 128));
        String code = text.replaceAll("(?s)/\\*.*?\\*/", "").replaceAll("//[^\n]*", "");
        for (String pattern : NOT_THERE) {
            Matcher found = Pattern.compile(pattern).matcher(code);
            C.holds("no " + pattern, !found.find());
        }
        importsAreListed(code);
        methodsAreShort(code.lines().toList());
        C.holds("at most twelve classes", Pattern.compile("\\bclass \\w+").matcher(code).results().count() <= 12);
        C.finish();
    }

    private static void importsAreListed(String code) {
        Matcher imports = Pattern.compile("import ([\\w.*]+);").matcher(code);
        while (imports.find()) {
            C.holds(imports.group() + " is listed", imports.group(1).matches("java\\.util\\.(Arrays|List|ArrayList)"));
        }
    }

    private static void methodsAreShort(List<String> lines) {
        int start = -1;
        String end = "";
        for (int i = 0; i < lines.size(); i++) {
            String line = lines.get(i);
            if (start < 0 && line.matches("\\s+[\\w<>\\[\\] ]+\\([^;=]*\\) \\{") && !line.matches("\\s*(if|for|while|switch|}).*")) {
                start = i;
                end = line.replaceAll("\\S.*", "") + "}";
                C.holds("seven parameters at most: " + line.trim(), line.split(",").length <= 7);
            } else if (start >= 0 && line.equals(end)) {
                C.holds("short: " + lines.get(start).trim(), i - start < 60);
                start = -1;
            }
        }
        C.holds("the last method has an end", start < 0);
    }
}
