import java.lang.reflect.InvocationTargetException;
import java.lang.reflect.Method;
import java.lang.reflect.Modifier;
import java.util.ArrayList;
import java.util.HashMap;
import java.util.List;
import java.util.Map;

/** A run of calls on one object, each told as it is written: "alter(0, 1, MAX)". */
final class Play {
    private static final int MOST_CALLS = 512;
    private static final Map<String, Method> METHODS = new HashMap<>();
    private final Sentences sentences;
    private final GloveAbout x = new GloveAbout();
    private final List<String> calls = new ArrayList<>();

    Play(Sentences sentences) {
        this.sentences = sentences;
    }

    /** The answer of an object to a call that is told as a text. */
    static long answerOf(Object object, String call) {
        int open = call.indexOf('(');
        String name = call.substring(0, open);
        String inside = call.substring(open + 1, call.length() - 1);
        String[] words = inside.isEmpty() ? new String[0] : inside.split(", ");
        Object[] numbers = new Object[words.length];
        for (int i = 0; i < words.length; i++) {
            numbers[i] = numberOf(words[i]);
        }
        try {
            return ((Number) methodOf(object, name).invoke(object, numbers)).longValue();
        } catch (IllegalAccessException | InvocationTargetException e) {
            throw new IllegalStateException(call + " threw", e);
        }
    }

    private static Method methodOf(Object object, String name) {
        return METHODS.computeIfAbsent(object.getClass().getName() + "." + name, key -> {
            for (Method method : object.getClass().getDeclaredMethods()) {
                if (method.getName().equals(name) && Modifier.isPublic(method.getModifiers())) {
                    return method;
                }
            }
            throw new IllegalArgumentException(key);
        });
    }

    private static int numberOf(String word) {
        return word.equals("MIN") ? Integer.MIN_VALUE : word.equals("MAX") ? Integer.MAX_VALUE : Integer.parseInt(word);
    }

    long ask(String call) {
        if (calls.size() == MOST_CALLS) {
            throw new IllegalStateException("a run of more than " + MOST_CALLS + " calls");
        }
        calls.add(call);
        return answerOf(x, call);
    }

    Play due(String call, long want) {
        sentences.due(call, ask(call), want);
        return this;
    }

    /** One bit of what a call answers. */
    Play dueBit(String call, int bit, long want) {
        sentences.due("bit " + bit + " of " + call, ask(call) >> bit & 1, want);
        return this;
    }

    /** Each of these calls answers so. */
    Play all(long want, String... each) {
        for (String call : each) {
            due(call, want);
        }
        return this;
    }

    /** Calls that only lead to where something is asked: none of them may be refused. */
    Play does(String... each) {
        for (String call : each) {
            long answer = ask(call);
            if (answer < 0) {
                throw new IllegalStateException(call + " answered " + answer);
            }
        }
        return this;
    }

    /** Each of these calls answers so, and all that can be asked behind it is as it would be without it. */
    Play refused(long want, String... each) {
        for (String call : each) {
            String without = again().probe();
            Play with = again();
            sentences.due(call, with.ask(call), want);
            sentences.holds(call + " changes nothing", with.probe().equals(without));
            due(call, want);
        }
        return this;
    }

    Play feeds(String text) {
        for (int i = 0; i < text.length(); i++) {
            does("feed(" + (int) text.charAt(i) + ")");
        }
        return this;
    }

    Play told(String text) {
        return feeds(text).does("text()");
    }

    /** A text with a FAULT at a place. */
    Play faulty(String text, int fault, int place) {
        feeds(text);
        sentences.due("text() of '" + text + "'", ask("text()"), -10 - place);
        sentences.due("fault() of '" + text + "'", ask("fault()"), fault);
        return this;
    }

    int callCount() {
        return calls.size();
    }

    /** The same calls on another object. */
    Play again() {
        Play other = new Play(sentences);
        for (String call : calls) {
            other.ask(call);
        }
        return other;
    }

    /** All answers that tell the state, some 300; the run has an end by it. */
    String probe() {
        StringBuilder all = new StringBuilder();
        probeState(all);
        probeSheets(all);
        probeSeen(all);
        for (int k = 0; k < 2; k++) {
            probe(all, "back(" + k + ")");
            probeState(all);
            probe(all, "kinds(0)", "kinds(1)", "doors(1)");
        }
        probe(all, "text()");
        probeState(all);
        return all.toString();
    }

    private void probe(StringBuilder all, String... each) {
        for (String call : each) {
            all.append(call).append(' ').append(ask(call)).append('\n');
        }
    }

    private void probeState(StringBuilder all) {
        probe(all, "fault()", "torn()");
        for (int what = 0; what <= 6; what++) {
            probe(all, "rule(" + what + ")", "count(" + what + ")");
        }
        for (int g = 0; g < 4; g++) {
            for (int what = 0; what <= 3; what++) {
                probe(all, "glove(" + g + ", " + what + ")");
            }
        }
        for (int d = 0; d < 12; d++) {
            probe(all, "door(" + d + ", 0)");
        }
        for (int i = 0; i < 6; i++) {
            probe(all, "stop(" + i + ")");
        }
    }

    private void probeSheets(StringBuilder all) {
        for (int k = 0; k < 4; k++) {
            for (int lane = 0; lane < 3; lane++) {
                probe(all, "read(" + k + ", " + lane + ", 0, 1)", "torn()", "glove(0, 1)", "glove(1, 1)");
            }
        }
    }

    private void probeSeen(StringBuilder all) {
        for (int n = (int) ask("count(0)"); n > 0; n--) {
            probe(all, "kinds(0)", "kinds(1)", "doors(0)", "doors(1)", "forget(" + (n - 1) + ")");
        }
    }
}
