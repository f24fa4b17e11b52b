import java.lang.reflect.Method;
import java.util.ArrayList;
import java.util.Comparator;
import java.util.List;
import java.util.Random;

/** Runs by chance (from fixed seeds), each call answered by the class and by PlainGloves. */
public final class ModelTest {
    private static final int RUNS = 400;
    private static final int CALLS = 512;
    private static final int[] FAR_OUT = {Integer.MIN_VALUE, Integer.MIN_VALUE + 1, -1000, -2, -1, 61, 100, 4096,
        Integer.MAX_VALUE - 1, Integer.MAX_VALUE};
    private static final String[] WORDS = {"signer", "dancer", "shy", "bold", "fame", "route", "man"};
    private static final Check C = new Check("ModelTest");

    private final Random random;
    private final GloveAbout x = new GloveAbout();
    private final PlainGloves model = new PlainGloves();
    private final List<Method[]> pairs = new ArrayList<>();
    private final StringBuilder calls = new StringBuilder();
    private int made;
    private boolean same = true;

    private ModelTest(long seed) throws ReflectiveOperationException {
        random = new Random(seed);
        for (Method method : GloveAbout.class.getDeclaredMethods()) {
            if (java.lang.reflect.Modifier.isPublic(method.getModifiers())) {
                pairs.add(new Method[] {method, PlainGloves.class.getMethod(method.getName(),
                    method.getParameterTypes())});
            }
        }
        pairs.sort(Comparator.comparing(pair -> pair[0].getName()));
    }

    public static void main(String[] args) throws ReflectiveOperationException {
        for (int seed = 0; seed < RUNS; seed++) {
            ModelTest run = new ModelTest(seed);
            run.play();
            C.holds("run " + seed + " as the model's: .." + run.latestCalls(), run.same);
        }
        C.finish();
    }

    private void play() throws ReflectiveOperationException {
        tell(soundText());
        while (made < CALLS && same) {
            int chance = random.nextInt(60);
            if (chance == 0 && made < CALLS - 170) {
                tell(random.nextInt(3) == 0 ? soundText() : spoiled(soundText()));
            } else {
                Method[] pair = pairs.get(random.nextInt(pairs.size()));
                // An empty tape tells that there is nothing: seldom, so that most runs have something.
                if (!pair[0].getName().equals("text") || random.nextInt(20) == 0) {
                    ask(pair, numbersFor(pair[0]));
                }
            }
        }
    }

    private String latestCalls() {
        return calls.substring(Math.max(0, calls.length() - 600));
    }

    private Method[] pairOf(String name) {
        for (Method[] pair : pairs) {
            if (pair[0].getName().equals(name)) {
                return pair;
            }
        }
        throw new IllegalArgumentException(name);
    }

    private void tell(String text) throws ReflectiveOperationException {
        ask(pairOf("end"), new Object[] {0});
        for (int i = 0; i < text.length(); i++) {
            ask(pairOf("feed"), new Object[] {(int) text.charAt(i)});
        }
        ask(pairOf("text"), new Object[0]);
        ask(pairOf("fault"), new Object[0]);
    }

    private void ask(Method[] pair, Object[] numbers) throws ReflectiveOperationException {
        Object got = pair[0].invoke(x, numbers);
        Object due = pair[1].invoke(model, numbers);
        made++;
        calls.append(pair[0].getName()).append(java.util.Arrays.toString(numbers)).append(' ');
        if (!got.equals(due)) {
            same = false;
            calls.append("answered ").append(got).append(", due is ").append(due);
        }
    }

    private int upTo(int most) {
        return random.nextInt(most + 1);
    }

    private Object[] numbersFor(Method method) {
        Object[] numbers = soundNumbers(method.getName(), method.getParameterCount());
        if (numbers.length > 0 && random.nextInt(12) == 0) {
            numbers[random.nextInt(numbers.length)] = FAR_OUT[random.nextInt(FAR_OUT.length)];
        }
        return numbers;
    }

    /** Mostly within bounds, now and then one above. */
    private Object[] soundNumbers(String name, int count) {
        switch (name) {
            case "feed": return new Object[] {upTo(127)};
            case "end": return new Object[] {upTo(2)};
            case "rule": return new Object[] {upTo(7)};
            case "glove": return new Object[] {upTo(4), upTo(6)};
            case "door": return new Object[] {upTo(12), upTo(2)};
            case "stop": case "cut": return new Object[] {upTo(6)};
            case "alter": {
                int what = upTo(2);
                return new Object[] {upTo(4), what, upTo(what == 0 ? 4 : what == 1 ? 12 : 21)};
            }
            case "fame": return new Object[] {upTo(12), upTo(10)};
            case "leave": case "meets": case "kinds": case "doors": return new Object[] {upTo(4)};
            case "go": case "call": return new Object[] {upTo(12)};
            case "days": return new Object[] {random.nextInt(4) == 0 ? upTo(31) : upTo(3)};
            case "runs": return new Object[] {days(), upTo(5)};
            case "ahead": case "kind": case "drop": return new Object[] {upTo(4), days(), upTo(2)};
            case "place": return new Object[] {upTo(5), days(), upTo(2)};
            case "extra": case "swap": case "shun": return new Object[] {days(), upTo(2)};
            case "need": return new Object[] {upTo(4), days()};
            case "luck": return new Object[] {upTo(11), upTo(4), upTo(random.nextInt(4) == 0 ? 9 : 5), upTo(1)};
            case "mean": return new Object[] {upTo(11), upTo(random.nextInt(4) == 0 ? 9 : 5), upTo(1)};
            case "see": return sight();
            case "forget": return new Object[] {random.nextInt(3) == 0 ? 0 : upTo(6)};
            case "ask": return new Object[] {upTo(4), upTo(1)};
            case "drift": return new Object[] {random.nextInt(), upTo(61), upTo(1)};
            case "keep": case "back": return new Object[] {upTo(2)};
            case "sheet": return new Object[] {upTo(random.nextBoolean() ? 4 : 1), upTo(3), upTo(41)};
            case "lay": return new Object[] {upTo(random.nextBoolean() ? 4 : 1), upTo(12), cell()};
            case "read": return new Object[] {upTo(1), upTo(2), upTo(11), upTo(random.nextInt(5) == 0 ? 21 : 3)};
            case "count": return new Object[] {upTo(6)};
            default:
                if (count != 0) {
                    throw new IllegalArgumentException(name);
                }
                return new Object[0];
        }
    }

    private int days() {
        return random.nextBoolean() ? upTo(61) : upTo(12);
    }

    private int cell() {
        switch (random.nextInt(6)) {
            case 0: return random.nextInt();
            case 1: return upTo(3) + 256 * upTo(300);
            case 2: return upTo(12);
            default: return upTo(3);
        }
    }

    /** Mostly what will be so, so that something is left as seen. */
    private Object[] sight() {
        int n = upTo(21);
        int g = upTo(3);
        int door = random.nextInt(3) == 0 ? upTo(12) : model.ahead(g, n, 0);
        return new Object[] {n, g, door};
    }

    private String soundText() {
        StringBuilder text = new StringBuilder();
        int gloves = random.nextInt(8) == 0 ? upTo(5) : 2 + upTo(2);
        for (int g = 0; g < gloves; g++) {
            text.append(WORDS[upTo(3)]).append(' ').append(upTo(11)).append(' ').append(upTo(20)).append(';');
        }
        if (random.nextInt(5) != 0) {
            text.append("fame").append(row(12, 9)).append(';');
        }
        if (random.nextInt(5) != 0) {
            text.append("route").append(row(6, 11)).append(';');
        }
        if (random.nextInt(5) != 0) {
            text.append("man ").append(upTo(11)).append(';');
        }
        return text.toString();
    }

    private String row(int length, int most) {
        StringBuilder row = new StringBuilder();
        int count = upTo(length + (random.nextInt(6) == 0 ? 1 : 0));
        for (int i = 0; i < count; i++) {
            row.append(' ').append(upTo(most));
        }
        return row.toString();
    }

    private String spoiled(String text) {
        StringBuilder spoiled = new StringBuilder(text);
        String signs = " ;;09123amnx!Z";
        for (int i = 1 + random.nextInt(2); i > 0 && spoiled.length() > 0; i--) {
            int place = random.nextInt(spoiled.length());
            char sign = signs.charAt(random.nextInt(signs.length()));
            switch (random.nextInt(5)) {
                case 0: spoiled.setCharAt(place, sign); break;
                case 1: spoiled.insert(place, sign); break;
                case 2: spoiled.deleteCharAt(place); break;
                case 3: spoiled.append(spoiled.substring(place)); break;
                default: spoiled.setLength(place); break;
            }
        }
        return spoiled.toString();
    }
}
