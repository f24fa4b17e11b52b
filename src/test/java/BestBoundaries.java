/** Boundary cases of what is best: promises 20 to 26. */
final class BestBoundaries {
    private static final int BAD = GloveAbout.BAD;
    private static final int STATE = GloveAbout.STATE;
    private static final int FULL = GloveAbout.FULL;
    private static final int NONE = GloveAbout.NONE;
    private final Sentences s;

    private BestBoundaries(Sentences s) {
        this.s = s;
    }

    static void all(Sentences s) {
        BestBoundaries all = new BestBoundaries(s);
        all.ofOneCall();
        all.ofSwap();
        all.ofShun();
        all.ofNeed();
        all.ofKind();
        all.ofDrop();
    }

    /** What all of these have: n of 0 to 60 DAYS, what 0 and 1. */
    private static String[] wrongDaysAndWhat(String call) {
        String[] wrong = {"-1, 0", "61, 0", "MIN, 0", "MAX, 1", "1, -1", "1, 2", "1, MIN", "1, MAX", "61, 2"};
        for (int i = 0; i < wrong.length; i++) {
            wrong[i] = call + wrong[i] + ")";
        }
        return wrong;
    }

    // ---- place, extra

    private void ofOneCall() {
        placeOfFirst();
        placeWithinBounds();
        extraOfFirst();
        extraOfFull();
    }

    private void placeOfFirst() {
        s.ofPromise(20,
            "The DOOR for a CALL (in place of that told) so that most are MET behind n DAYS (0 to 60), of several "
            + "the first (what 0), how many (1).");
        Play x = s.play("signer 2 6;signer 2 6;signer 2 6;signer 2 6;route 9 9;");
        x.all(0, "place(0, 0, 0)", "place(0, 0, 1)", "place(1, 1, 0)", "place(1, 1, 1)");
        x.due("place(0, 1, 0)", 3).due("place(0, 1, 1)", 4).due("place(0, 60, 0)", 3).due("place(0, 60, 1)", 4);
        x.due("place(1, 60, 0)", 4).due("place(1, 60, 1)", 4).due("stop(0)", 9).due("stop(1)", 9);
        s.play("signer 10 6;route 0;").due("place(0, 1, 0)", 11).due("place(0, 1, 1)", 1);
        s.play("signer 11 6;route 5;").due("place(0, 1, 0)", 0).due("place(0, 1, 1)", 1);
        s.play("signer 2 0;route 5;").all(0, "place(0, 60, 0)", "place(0, 60, 1)");
        s.play("signer 2 6;route 9 9 9 9 9 9;").due("place(5, 6, 0)", 8).due("place(5, 5, 1)", 0)
            .due("place(5, 60, 1)", 1);
    }

    private void placeWithinBounds() {
        s.ofPromise(20, "BAD.");
        Play x = s.play("signer 2 6;route 9 9;").refused(BAD, wrongDaysAndWhat("place(0, "));
        x.refused(BAD, "place(-1, 1, 0)", "place(2, 1, 0)", "place(6, 1, 0)", "place(MIN, 1, 0)", "place(MAX, 1, 0)");
        s.play("signer 2 6;").refused(BAD, "place(0, 1, 0)");
    }

    private void extraOfFirst() {
        s.ofPromise(21,
            "so that most are MET behind n DAYS (0 to 60), of several the first (what 0), how many (1). BAD;");
        Play x = s.play("signer 2 6;signer 8 0;man 9;").refused(BAD, wrongDaysAndWhat("extra("));
        x.all(0, "extra(0, 0)", "extra(0, 1)").due("extra(1, 0)", 3).due("extra(60, 0)", 3).due("extra(60, 1)", 1);
        x.does("call(9)", "call(9)", "call(9)", "call(9)", "call(9)").due("extra(6, 0)", 8).due("extra(6, 1)", 1);
        x.all(0, "extra(5, 0)", "extra(5, 1)").due("rule(6)", 5);
        s.play("signer 10 1;").due("extra(1, 0)", 11);
    }

    private void extraOfFull() {
        s.ofPromise(21, "FULL: there are 6 CALLS.");
        Play x = s.play("signer 2 6;route 9 9 9 9 9 9;").refused(FULL, "extra(0, 0)", "extra(60, 1)");
        x.refused(BAD, "extra(61, 0)", "extra(-1, 1)", "extra(0, 2)", "extra(0, -1)").does("cut(5)")
            .due("extra(6, 0)", 8);
    }

    // ---- swap, shun

    private void ofSwap() {
        swapOfMost();
        swapWithinBounds();
    }

    private void swapOfMost() {
        s.ofPromise(22, "so that NAME is most behind n DAYS (0 to 60), more than as it is: 10 times the lesser and the "
            + "greater, of several the least (what 0), by how much it is more (1).");
        // He is at 5 on the 5th DAY, as the signer is, unless CALLS 4 and 5 change.
        Play last = s.play("signer 0 6;fame 0 0 0 0 0 3 4;route 5 5 5 5 5 8;");
        last.due("swap(5, 0)", 45).due("swap(5, 1)", 3).due("swap(6, 0)", 45).due("swap(6, 1)", 7);
        last.due("swap(60, 0)", 45).due("swap(60, 1)", 7).due("swap(4, 0)", NONE).due("stop(4)", 5);
        // CALL 0 may change with 1 or with 2.
        Play first = s.play("signer 2 6;fame 0 0 0 0 9;route 3 8 8;man 0;");
        first.due("swap(2, 0)", 1).due("swap(2, 1)", 9).due("swap(60, 0)", 1).due("swap(60, 1)", 9);
    }

    private void swapWithinBounds() {
        s.ofPromise(22, "BAD; NONE: by none.");
        Play x = s.play("signer 2 6;fame 0 0 0 0 9;route 3 8;").refused(BAD, wrongDaysAndWhat("swap("));
        x.refused(NONE, "swap(0, 0)", "swap(0, 1)", "swap(1, 0)", "swap(1, 1)").due("swap(2, 0)", 1);
        x.does("cut(1)").refused(NONE, "swap(2, 0)", "swap(60, 1)").refused(BAD, "swap(61, 0)", "swap(2, 2)");
        x.does("cut(0)").refused(NONE, "swap(2, 0)", "swap(60, 1)").refused(BAD, "swap(-1, 0)", "swap(2, -1)");
        // As it is NAME is most, or as much.
        s.play("signer 2 6;fame 0 0 0 0 9;route 8 3;").refused(NONE, "swap(2, 0)", "swap(2, 1)");
        s.play("signer 2 6;fame 0 0 0 0 9;route 3 3;").refused(NONE, "swap(2, 0)", "swap(2, 1)");
        // CALL 1 is the next: from 0 they go to 6, where NAME has its end; from 6 they go to 8.
        DayBoundaries.nearTheEndOfName(s).does("call(6)", "call(0)").refused(NONE, "swap(1, 0)", "swap(2, 1)");
        DayBoundaries.nearTheEndOfName(s).does("call(0)", "call(6)").due("swap(1, 0)", 1).due("swap(1, 1)", 27);
    }

    private void ofShun() {
        shunOfMost();
        shunWithinBounds();
    }

    private void shunOfMost() {
        s.ofPromise(23,
            "so that NAME is most behind n DAYS (0 to 60), more than as it is, of several the first (what 0), "
            + "by how much it is more (1).");
        // Without one of CALLS 0 to 4 he is at 6 on the 5th DAY, as the other signer is.
        Play last = s.play("signer 0 6;signer 1 5;fame 0 0 0 0 0 0 3;route 8 8 8 8 8 6;");
        last.due("shun(6, 0)", 5).due("shun(6, 1)", 6).due("shun(60, 0)", 5).due("shun(60, 1)", 6).due("rule(6)", 6);
        Play first = s.play("signer 0 6;fame 0 0 0 0 0 0 3;route 8 8 8 8 8 6;");
        first.due("shun(6, 0)", 0).due("shun(6, 1)", 3).due("shun(5, 0)", NONE);
        // Of one CALL none is left: he stays.
        Play one = s.play("signer 2 6;fame 0 0 0 0 9;route 3;man 8;").due("shun(2, 0)", 0).due("shun(2, 1)", 9);
        one.due("rule(6)", 1).due("shun(60, 0)", 0);
        DayBoundaries.nearTheEndOfName(s).does("call(6)").due("shun(1, 0)", 0).due("shun(1, 1)", 27);
    }

    private void shunWithinBounds() {
        s.ofPromise(23, "BAD; NONE: none.");
        Play x = s.play("signer 2 6;fame 0 0 0 0 9;route 3;man 8;").refused(BAD, wrongDaysAndWhat("shun("));
        x.refused(NONE, "shun(0, 0)", "shun(0, 1)", "shun(1, 0)", "shun(1, 1)");
        x.does("cut(0)").refused(NONE, "shun(2, 0)", "shun(60, 1)").refused(BAD, "shun(61, 0)", "shun(2, 2)");
        s.play("signer 2 6;fame 0 0 0 0 9;route 8;man 3;").refused(NONE, "shun(2, 0)", "shun(2, 1)");
        s.play("signer 2 6;fame 0 0 0 0 9;route 8 8;man 8;").refused(NONE, "shun(2, 0)", "shun(60, 1)");
    }

    // ---- need, kind, drop

    private void ofNeed() {
        needOfLeast();
        needWithinBounds();
    }

    private void needOfLeast() {
        s.ofPromise(24, "The least WARM (0 to 20) of a GLOVE by which it is PAIRED behind n DAYS (0 to 60).");
        s.play("signer 2 0;man 3;").due("need(0, 1)", 1).due("need(0, 60)", 1).due("glove(0, 2)", 0);
        Play x = s.play(DayBoundaries.LATE).due("need(0, 20)", 20).due("need(0, 60)", 20);
        x.does("alter(0, 2, 0)").due("need(0, 20)", 20).due("need(0, 60)", 20).does("alter(0, 2, 20)", "days(19)");
        x.due("need(0, 1)", 1).does("days(1)").due("need(0, 0)", 0).due("need(0, 60)", 0);
        s.play("signer 3 0;man 3;").due("need(0, 12)", 12).due("need(0, 60)", 12);
    }

    private void needWithinBounds() {
        s.ofPromise(24, "BAD; NONE: by none.");
        Play x = s.play(DayBoundaries.LATE).refused(BAD, "need(-1, 0)", "need(1, 0)", "need(4, 0)", "need(MIN, 60)");
        x.refused(BAD, "need(0, -1)", "need(0, 61)", "need(0, MIN)", "need(0, MAX)", "need(MAX, 60)", "need(1, 61)");
        x.refused(NONE, "need(0, 0)", "need(0, 19)");
        s.play(DayBoundaries.TOO_LATE).refused(NONE, "need(0, 20)", "need(0, 21)", "need(0, 60)");
        s.play("signer 3 1;dancer 4 1;man 3;").refused(NONE, "need(0, 11)", "need(1, 60)");
    }

    private void ofKind() {
        kindOfMost();
        kindWithinBounds();
    }

    private void kindOfMost() {
        s.ofPromise(25,
            "by which NAME is most behind n DAYS (0 to 60), of several the first (what 0), by how much it is "
            + "more (1).");
        Play x = s.play("dancer 2 6;fame 0 8;man 9;").all(0, "kind(0, 0, 0)", "kind(0, 0, 1)");
        x.due("kind(0, 1, 0)", 3).due("kind(0, 1, 1)", 8).due("kind(0, 60, 0)", 3).due("kind(0, 60, 1)", 8);
        x.does("fame(3, 8)").due("kind(0, 1, 0)", 0).due("kind(0, 1, 1)", 8).due("glove(0, 0)", 1);
        s.play("bold 2 0;fame 9 9 9 9;").all(0, "kind(0, 60, 0)", "kind(0, 60, 1)");
        s.play("signer 2 6;fame 9 9 9 9;man 3;").does("days(1)", "alter(0, 0, 3)")
            .all(0, "kind(0, 60, 0)", "kind(0, 60, 1)");
        DayBoundaries.nearTheEndOfName(s).due("kind(0, 1, 1)", 27).due("kind(0, 60, 0)", 0).due("kind(0, 60, 1)", 27);
    }

    private void kindWithinBounds() {
        s.ofPromise(25, "BAD.");
        Play x = s.play("dancer 2 6;fame 0 8;man 9;").refused(BAD, wrongDaysAndWhat("kind(0, "));
        x.refused(BAD, "kind(-1, 1, 0)", "kind(1, 1, 0)", "kind(4, 1, 0)", "kind(MIN, 1, 0)", "kind(MAX, 1, 0)");
    }

    private void ofDrop() {
        dropOfMost();
        dropWithinBounds();
        dropOfPaired();
    }

    private void dropOfMost() {
        s.ofPromise(26,
            "so that NAME is most behind n DAYS (0 to 60), of several the first (what 0), by how much it is more (1).");
        Play x = s.play("signer 2 1;fame 9;man 6;").all(0, "drop(0, 0, 0)", "drop(0, 0, 1)");
        x.due("drop(0, 1, 0)", 11).due("drop(0, 1, 1)", 9).due("drop(0, 60, 0)", 11).due("drop(0, 60, 1)", 9);
        x.does("fame(1, 9)").due("drop(0, 1, 0)", 0).due("drop(0, 1, 1)", 9).due("glove(0, 1)", 2);
        x.does("alter(0, 2, 0)").all(0, "drop(0, 60, 0)", "drop(0, 60, 1)");
        // AT his DOOR it is not PAIRED by that: it steps on from there.
        s.play("signer 2 1;fame 0 0 0 0 0 0 9 7;man 6;").due("drop(0, 1, 0)", 6).due("drop(0, 1, 1)", 7);
        DayBoundaries.nearTheEndOfName(s).due("drop(0, 1, 1)", 27).due("drop(0, 60, 0)", 0).due("drop(0, 60, 1)", 27);
    }

    private void dropWithinBounds() {
        s.ofPromise(26, "BAD;");
        Play x = s.play("signer 2 1;fame 9;man 6;").refused(BAD, wrongDaysAndWhat("drop(0, "));
        x.refused(BAD, "drop(-1, 1, 0)", "drop(1, 1, 0)", "drop(4, 1, 0)", "drop(MIN, 1, 0)", "drop(MAX, 1, 0)");
    }

    private void dropOfPaired() {
        s.ofPromise(26, "STATE: it is PAIRED.");
        Play x = s.play("signer 2 6;signer 7 1;fame 9;man 3;").does("days(1)")
            .refused(STATE, "drop(0, 0, 0)", "drop(0, 60, 1)");
        x.refused(BAD, "drop(0, 61, 0)", "drop(0, -1, 0)", "drop(0, 1, 2)", "drop(0, 1, -1)", "drop(2, 1, 0)");
        x.due("drop(1, 1, 0)", 0).does("leave(0)").due("drop(0, 1, 0)", 11);
    }
}
