import java.util.ArrayList;
import java.util.List;

/** Every call with all combinations of the edges of its numbers, in several states, held against PlainGloves. */
public final class EdgeGridTest {
    private static final String DAYS = "-1 0 1 60 61";
    private static final String GLOVE = "MIN -1 0 1 2 3 4 MAX";
    private static final String DOOR = "MIN -1 0 11 12 MAX";
    private static final String WHAT = "-1 0 1 2";
    private static final String SHEET = "-1 0 1 2 3 4";
    private static final String LANE = "-1 0 1 2 3";
    private static final String[][] CALLS = {
        {"feed", "MIN -1 0 127 128 MAX"}, {"end", "MIN -1 0 1 5 6 7 159 160 161 MAX"}, {"text"}, {"fault"},
        {"rule", "MIN -1 0 1 2 3 4 5 6 7 MAX"}, {"glove", GLOVE, "-1 0 1 2 3 4 5 6"}, {"door", DOOR, WHAT},
        {"stop", "MIN -1 0 1 2 3 4 5 6 MAX"}, {"alter", GLOVE, "-1 0 1 2 3", "-1 0 3 4 11 12 20 21"},
        {"fame", DOOR, "-1 0 9 10"}, {"leave", GLOVE}, {"go", DOOR}, {"call", DOOR},
        {"cut", "MIN -1 0 1 2 5 6 7 MAX"}, {"days", "MIN -1 0 1 9 10 29 30 31 MAX"},
        {"runs", DAYS, "-1 0 1 2 3 4 5"}, {"ahead", GLOVE, DAYS, WHAT}, {"meets", GLOVE},
        {"place", "-1 0 1 5 6", DAYS, WHAT}, {"extra", DAYS, WHAT}, {"swap", DAYS, WHAT}, {"shun", DAYS, WHAT},
        {"need", GLOVE, DAYS}, {"kind", GLOVE, DAYS, WHAT}, {"drop", GLOVE, DAYS, WHAT},
        {"luck", "-1 0 3 10 11", GLOVE, "-1 0 1 8 9", WHAT}, {"mean", "-1 0 3 10 11", "-1 0 1 8 9", WHAT},
        {"see", "-1 0 20 21", GLOVE, DOOR}, {"forget", "MIN -1 0 1 5 6 7 MAX"}, {"kinds", GLOVE}, {"doors", GLOVE},
        {"ask", GLOVE, WHAT}, {"drift", "MIN -1 0 1 MAX", DAYS, WHAT}, {"keep", "MIN -1 0 1 2 MAX"},
        {"back", "MIN -1 0 1 2 MAX"}, {"sheet", SHEET, LANE, "MIN -1 0 1 40 41 MAX"},
        {"lay", SHEET, "MIN -1 0 1 3 4 39 40 MAX", "MIN -1 0 127 128 255 256 65536 MAX"},
        {"read", SHEET, LANE, "MIN -1 0 1 2 3 38 39 MAX", "-1 0 1 2 20 21"}, {"torn"},
        {"count", "MIN -1 0 1 2 3 4 5 6 MAX"}};
    private static final String[] TEXTS = {"", "shy 6 1;",
        "signer 2 6;bold 9 4;shy 5 0;fame 1 2 3;route 3 3 3 3 3 3;man 1;",
        "dancer 11 20;signer 10 20;bold 0 3;shy 1 2;fame 9 8 7 6 5 4 3 2 1 0 9 9;route 11 0 4;man 11;"};
    private static final String[] AND_THEN = {"days(1)", "keep(0)", "see(0, 0, 2)", "see(20, 1, 10)", "see(1, 1, 9)",
        "see(2, 0, 3)", "see(3, 0, 3)", "see(4, 0, 3)", "sheet(0, 2, 4)", "lay(0, 0, 1)", "lay(0, 1, 7)",
        "lay(0, 3, 5)", "sheet(1, 0, 40)", "sheet(2, 1, 0)", "read(0, 2, 1, 2)"};
    private static final String[] BEHIND = {"rule(0)", "rule(1)", "rule(2)", "rule(3)", "rule(4)", "rule(5)", "rule(6)",
        "count(0)", "count(1)", "count(2)", "count(3)", "count(4)", "count(5)", "glove(0, 0)", "glove(0, 1)",
        "glove(1, 1)", "fault()", "torn()", "text()"};
    private static final Check C = new Check("EdgeGridTest");

    public static void main(String[] args) {
        for (String[] call : CALLS) {
            List<String> combinations = combinationsOf(call);
            for (String text : TEXTS) {
                sameAnswers(setUp(text, false), combinations);
                sameAnswers(setUp(text, true), combinations);
            }
        }
        C.finish();
    }

    private static List<String> combinationsOf(String[] call) {
        List<String> all = List.of(call[0] + "(");
        for (int i = 1; i < call.length; i++) {
            List<String> longer = new ArrayList<>();
            for (String start : all) {
                for (String number : call[i].split(" ")) {
                    longer.add(start + (i == 1 ? "" : ", ") + number);
                }
            }
            all = longer;
        }
        return all.stream().map(start -> start + ")").toList();
    }

    private static List<String> setUp(String text, boolean andThen) {
        List<String> calls = new ArrayList<>();
        text.chars().forEach(c -> calls.add("feed(" + c + ")"));
        calls.add("text()");
        if (andThen) {
            calls.addAll(List.of(AND_THEN));
        }
        "man 4;".chars().forEach(c -> calls.add("feed(" + c + ")"));
        return calls;
    }

    /** Each call on objects of its own, so that none of them is used for too many. */
    private static void sameAnswers(List<String> setUp, List<String> combinations) {
        for (String call : combinations) {
            GloveAbout x = new GloveAbout();
            PlainGloves model = new PlainGloves();
            for (String before : setUp) {
                Play.answerOf(x, before);
                Play.answerOf(model, before);
            }
            C.due(call, Play.answerOf(x, call), Play.answerOf(model, call));
            for (String behind : BEHIND) {
                C.due(behind + " behind " + call, Play.answerOf(x, behind), Play.answerOf(model, behind));
            }
        }
    }
}
