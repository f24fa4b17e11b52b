/** Boundary cases of all calls alike: which answer comes first, what is refused, and how many calls there may be. */
final class OrderBoundaries {
    private static final int BAD = GloveAbout.BAD;
    private static final int STATE = GloveAbout.STATE;
    private static final int FULL = GloveAbout.FULL;
    private static final int NONE = GloveAbout.NONE;
    private static final int MOST_CALLS = 512;
    private final Sentences s;

    private OrderBoundaries(Sentences s) {
        this.s = s;
    }

    static void all(Sentences s) {
        OrderBoundaries all = new OrderBoundaries(s);
        all.theFirstThatFits();
        all.refusedChangesNothing();
        all.lastOfAllCalls();
    }

    /** GLOVE 0 is PAIRED, 1 goes about, 2 is COLD; THE ROUTE and SEEN are full; IMAGE 0 alone; SHEET 3 is nothing. */
    private Play full() {
        Play x = s.play("signer 2 6;bold 9 4;shy 5 0;fame 1 2 3;route 3 3 3 3 3 3;man 1;").does("days(1)", "keep(0)");
        for (int i = 0; i < 6; i++) {
            x.does("see(0, 1, 10)");
        }
        x.does("sheet(0, 2, 4)", "lay(0, 0, 1)", "lay(0, 1, 7)", "lay(0, 3, 5)", "sheet(1, 0, 3)", "sheet(2, 1, 0)");
        return x.does("fame(11, 4)", "alter(1, 2, 5)").feeds("man 4;");
    }

    private void theFirstThatFits() {
        s.ofTerms("BAD -1 (a number is not as told, there is no such GLOVE, DOOR, CALL, IMAGE, SHEET), STATE -2 "
            + "(as told), "
            + "FULL -3, NONE -4 (there is none), the first that fits");
        Play x = full();
        x.all(STATE, "alter(0, 1, 0)", "leave(1)", "drop(0, 0, 0)", "doors(0)", "back(1)");
        x.all(BAD, "alter(0, 1, 12)", "alter(0, 1, -1)", "leave(3)", "drop(0, 61, 0)", "drop(0, 0, 2)", "doors(3)",
            "back(2)");
        x.all(FULL, "call(0)", "extra(0, 0)", "see(0, 0, 0)");
        x.all(BAD, "call(12)", "extra(61, 0)", "extra(0, 2)", "see(21, 0, 0)", "see(0, 3, 0)", "see(0, 0, 12)");
        x.all(NONE, "runs(0, 4)", "meets(2)", "swap(0, 0)", "shun(0, 0)", "need(1, 0)", "ask(2, 0)");
        x.all(BAD, "runs(61, 4)", "runs(0, 5)", "meets(3)", "swap(61, 0)", "swap(0, 2)", "shun(61, 0)", "shun(0, 2)");
        x.all(BAD, "need(3, 0)", "need(1, 61)", "ask(3, 0)", "ask(2, 2)", "place(6, 0, 0)", "stop(6)", "keep(2)");
        x.all(-14, "sheet(0, 0, -1)").all(-11, "lay(3, -1, 0)").all(-12, "lay(2, 0, 0)").all(-20, "read(0, 2, 2, 1)");
        x.all(BAD, "sheet(4, 0, -1)", "sheet(0, 3, -1)", "lay(4, -1, 0)", "read(4, 2, 2, 1)", "read(0, 3, 2, 1)",
            "read(0, 2, 2, 21)");
        DayBoundaries.onTheLastDay(s, "").due("days(1)", FULL).due("days(31)", BAD);
        s.due("BAD", GloveAbout.BAD, -1);
        s.due("STATE", GloveAbout.STATE, -2);
        s.due("FULL", GloveAbout.FULL, -3);
        s.due("NONE", GloveAbout.NONE, -4);
    }

    private void refusedChangesNothing() {
        s.ofTerms("what is refused changes nothing (but THE TAPE, as told).");
        full().refused(BAD, "feed(128)", "feed(-1)", "end(7)", "end(-1)", "rule(7)", "glove(3, 0)", "glove(0, 6)",
            "door(12, 0)");
        full().refused(BAD, "door(0, 2)", "stop(6)", "alter(3, 0, 0)", "alter(0, 3, 0)", "alter(0, 0, 4)",
            "alter(1, 1, 12)");
        full().refused(BAD, "alter(1, 2, 21)", "fame(12, 0)", "fame(0, 10)", "leave(3)", "go(12)", "go(-1)",
            "call(12)", "cut(7)");
        full().refused(STATE, "alter(0, 1, 5)", "leave(1)", "leave(2)", "drop(0, 60, 1)", "doors(0)", "back(1)");
        full().refused(FULL, "call(0)", "extra(60, 0)", "see(1, 1, 1)");
        full().refused(BAD, "cut(-1)", "days(31)", "days(-1)", "runs(61, 0)", "runs(0, 5)", "ahead(3, 0, 0)",
            "ahead(0, 61, 1)");
        full().refused(BAD, "meets(3)", "place(6, 1, 0)", "place(0, 61, 0)", "extra(61, 0)", "swap(61, 0)",
            "shun(61, 1)");
        full().refused(BAD, "need(3, 1)", "kind(3, 1, 0)", "drop(3, 1, 0)", "luck(11, 0, 1, 0)", "luck(1, 0, 9, 0)",
            "mean(1, 9, 0)");
        full().refused(NONE, "runs(0, 4)", "meets(2)", "swap(60, 0)", "shun(60, 0)", "need(1, 0)", "need(2, 0)",
            "ask(2, 1)");
        full().refused(BAD, "see(21, 1, 1)", "see(1, 1, 12)", "forget(7)", "forget(-1)", "kinds(3)", "doors(3)",
            "ask(3, 0)");
        full().refused(BAD, "drift(1, 0, 0)", "drift(1, 61, 0)", "keep(2)", "keep(-1)", "back(2)", "back(-1)",
            "sheet(0, 0, 41)");
        full().refused(BAD, "sheet(4, 0, 4)", "sheet(0, 3, 4)", "lay(4, 0, 0)", "read(4, 0, 0, 1)", "read(0, 3, 0, 1)",
            "read(0, 2, 0, 21)");
        full().refused(-14, "sheet(0, 2, -1)").refused(-11, "lay(3, 0, 1)")
            .refused(-12, "lay(0, 4, 1)", "lay(0, -1, 1)", "lay(2, 0, 1)");
        full().refused(-21, "read(0, 2, 0, 2)").refused(-20, "read(0, 2, 2, 1)").refused(BAD, "count(6)", "count(-1)");
        // A text that is refused is gone from THE TAPE.
        full().feeds("!").due("text()", -16).due("count(2)", 0).due("rule(0)", 3).due("rule(2)", 3).due("count(1)", 1)
            .due("count(0)", 6);
    }

    private void lastOfAllCalls() {
        s.of("What it is",
            "An object is used for at most 512 calls after it has been made; what later calls answer is free.");
        String[] last = {"feed(32)", "end(3)", "text()", "fault()", "rule(4)", "glove(1, 5)", "door(3, 1)", "stop(5)",
            "alter(1, 1, 4)", "fame(11, 9)", "leave(0)", "go(8)", "cut(2)", "days(30)", "runs(60, 0)",
            "ahead(1, 60, 0)",
            "meets(1)", "place(0, 60, 0)", "kind(1, 60, 1)", "drop(1, 60, 1)", "need(1, 60)", "luck(3, 1, 8, 1)",
            "mean(3, 8, 0)", "forget(2)", "kinds(1)", "doors(1)", "ask(1, 0)", "drift(7, 60, 0)", "keep(1)", "back(0)",
            "sheet(3, 0, 40)", "lay(0, 3, 9)", "read(0, 2, 0, 1)", "torn()", "count(4)", "call(1)", "see(1, 1, 1)"};
        for (String call : last) {
            Play early = full();
            Play late = full();
            while (late.callCount() < MOST_CALLS - 1) {
                late.does("count(2)");
            }
            late.due(call, early.ask(call));
        }
    }
}
