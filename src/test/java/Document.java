import java.io.IOException;
import java.nio.file.Files;
import java.nio.file.Path;
import java.util.ArrayList;
import java.util.BitSet;
import java.util.LinkedHashMap;
import java.util.List;
import java.util.Map;
import java.util.regex.Matcher;
import java.util.regex.Pattern;

/** ../shared/DOC.md by its sections, and which of its words were quoted (run from the project's folder). */
final class Document {
    private static final Path FILE = Path.of("../shared/DOC.md");
    private static final Pattern HEADING = Pattern.compile("## (What it is|Terms|Promise \\d+)\\b.*");
    /** Lines that tell what the whole is about, and how the face is ordered. */
    private static final Pattern TELLS_OF_ALL = Pattern.compile("Left in the cab|Ahead of the calls");
    /** The words by which a sentence of the document names a boundary case. */
    private static final Pattern BOUNDARY = Pattern.compile("BAD|STATE|FULL|NONE|\\d+ to \\d+|\\(0, 1\\)|\\d+ bytes"
        + "|at most|at first|more than|or more|fewer than|above \\d+|below 0|comes 0|round|SEEN \\(6\\)|too long"
        + "|out of its bounds|second time|\\d+th\\b|1 or 2|there is none|if there are none|if both|No GLOVES|alone"
        + "|empty|in place of|nothing|nobody|refuse[sd]|stays|also if|of several|lowest|modulo|are gone|; 0\\.");

    private final Map<String, String> sections = new LinkedHashMap<>();
    private final Map<String, BitSet> quoted = new LinkedHashMap<>();

    Document() throws IOException {
        String heading = null;
        for (String line : Files.readAllLines(FILE)) {
            if (line.startsWith("## ")) {
                Matcher known = HEADING.matcher(line);
                heading = known.matches() ? known.group(1) : null;
            } else if (heading != null && !TELLS_OF_ALL.matcher(line).lookingAt()) {
                sections.merge(heading, line.strip(), (all, more) -> (all + " " + more).strip());
            }
        }
        sections.replaceAll((section, words) -> words.replaceAll("\\s+", " "));
        sections.keySet().forEach(section -> quoted.put(section, new BitSet()));
    }

    int sectionCount() {
        return sections.size();
    }

    /** Whether a section has these words; they are quoted from now on. */
    boolean quotes(String section, String words) {
        int start = sections.getOrDefault(section, "").indexOf(words);
        if (start >= 0) {
            quoted.get(section).set(start, start + words.length());
        }
        return start >= 0;
    }

    /** The boundary cases that no quotation has. */
    List<String> unquoted() {
        List<String> all = new ArrayList<>();
        sections.forEach((section, words) -> {
            Matcher boundary = BOUNDARY.matcher(words);
            while (boundary.find()) {
                if (quoted.get(section).nextClearBit(boundary.start()) < boundary.end()) {
                    all.add(section + ": .." + words.substring(Math.max(0, boundary.start() - 30), boundary.end()));
                }
            }
        });
        return all;
    }
}
