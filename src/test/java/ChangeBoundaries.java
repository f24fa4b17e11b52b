/** Boundary cases of DOORS, GLOVES and what is changed by hand: promises 10 to 15 and their terms. */
final class ChangeBoundaries {
    private static final int BAD = GloveAbout.BAD;
    private static final int STATE = GloveAbout.STATE;
    private static final int FULL = GloveAbout.FULL;
    private final Sentences s;

    private ChangeBoundaries(Sentences s) {
        this.s = s;
    }

    static void all(Sentences s) {
        ChangeBoundaries all = new ChangeBoundaries(s);
        all.ofDoors();
        all.ofGloves();
        all.ofTheManAndHisRoute();
        all.ofSteps();
        all.ofChanges();
    }

    // ---- DOORS, GLOVES, THE MAN, THE ROUTE

    private void ofDoors() {
        doorsInARing();
        fameAtFirst();
    }

    private void doorsInARing() {
        s.ofTerms("DOORS 0 to 11, in a ring (behind 11 comes 0)");
        Play x = s.play("signer 11 9;dancer 10 9;dancer 11 9;man 6;");
        x.due("glove(0, 5)", 0).due("glove(1, 5)", 0).due("glove(2, 5)", 1);
        x.does("days(1)").due("glove(0, 1)", 0).due("glove(1, 1)", 0).due("glove(2, 1)", 1);
        // The one ahead of 0 is 11: a shy one at 0 goes there from a man at 1, a bold one to a man at 11.
        s.play("shy 0 9;man 1;").due("glove(0, 5)", 11).does("days(1)").due("glove(0, 1)", 11);
        s.play("bold 0 9;man 11;").due("glove(0, 5)", 11).due("meets(0)", 1);
        s.play("shy 11 9;man 10;").due("glove(0, 5)", 0).does("days(1)").due("glove(0, 1)", 0);
        s.play("bold 11 9;man 0;").due("glove(0, 5)", 0).due("meets(0)", 1);
        s.play().refused(BAD, "go(12)", "go(-1)").due("go(11)", 0).due("go(0)", 11);
    }

    private void fameAtFirst() {
        s.ofTerms("each with a FAME (0 to 9; 0 at first)");
        Play x = s.play();
        for (int d = 0; d < 12; d++) {
            x.due("door(" + d + ", 0)", 0).due("fame(" + d + ", 9)", 0).due("fame(" + d + ", 0)", 9);
        }
        x.refused(BAD, "fame(0, 10)", "fame(0, -1)");
    }

    private void ofGloves() {
        fourAtMost();
        notPairedAtFirst();
        coldIfNotPaired();
    }

    private void fourAtMost() {
        s.ofTerms("GLOVES 0 on (4 at most, by order)");
        Play x = s.play("bold 1 1;shy 2 2;dancer 3 3;signer 4 4;").due("rule(0)", 4);
        for (int g = 0; g < 4; g++) {
            x.due("glove(" + g + ", 0)", 3 - g).due("glove(" + g + ", 1)", g + 1);
        }
        x.due("glove(4, 0)", BAD).faulty("shy 1 1;shy 1 1;shy 1 1;shy 1 1;shy 1 1;", 5, 32).due("rule(0)", 4);
    }

    private void notPairedAtFirst() {
        s.ofTerms("so WARM (0 to 20), PAIRED or not (not at first)");
        Play x = s.play("signer 0 0;signer 0 20;man 0;").due("rule(4)", 0).due("glove(0, 3)", 0).due("glove(1, 3)", 0);
        x.due("glove(0, 2)", 0).due("glove(1, 2)", 20).refused(BAD, "alter(0, 2, 21)", "alter(0, 2, -1)");
    }

    private void coldIfNotPaired() {
        s.ofTerms("COLD, if WARM is 0 and it is not PAIRED.");
        Play x = s.play("signer 2 1;signer 5 1;man 3;").due("rule(5)", 0).does("days(1)");
        x.due("rule(5)", 2).does("alter(0, 2, 0)").due("rule(5)", 2).due("glove(0, 2)", 0);
        x.does("leave(0)").due("rule(5)", 3).does("alter(1, 2, 1)").due("rule(5)", 1);
    }

    private void ofTheManAndHisRoute() {
        manAtFirst();
        sixCallsAtMost();
        nameAndDayAtFirst();
    }

    private void manAtFirst() {
        s.ofTerms("THE MAN is AT a DOOR (0 at first).");
        s.play().due("rule(2)", 0).due("go(0)", 0).due("go(11)", 0).due("rule(2)", 11);
        s.play("signer 1 1;").due("rule(2)", 0).due("glove(0, 4)", 1);
    }

    private void sixCallsAtMost() {
        s.ofTerms("THE ROUTE: CALLS, one behind another (6 at most): DOORS.");
        Play x = s.play().due("rule(6)", 0);
        for (int i = 1; i <= 6; i++) {
            x.due("call(" + i + ")", i);
        }
        x.refused(FULL, "call(7)").due("stop(0)", 1).due("stop(5)", 6).due("rule(6)", 6);
    }

    private void nameAndDayAtFirst() {
        s.ofTerms("NAME (what is done in his name; 0 at first), DAY (0 at first).");
        s.play().all(0, "rule(1)", "rule(3)");
        s.play("signer 1 1;fame 9 9 9 9;man 8;").all(0, "rule(1)", "rule(3)").due("days(1)", 9).due("rule(3)", 9);
    }

    // ---- FAR and STEPS

    private void ofSteps() {
        shorterWayRound();
        shyIfBothAreAsFar();
        boldIfBothAreAsFar();
    }

    private void shorterWayRound() {
        s.ofTerms("how many steps it is from one to the other, the shorter way round.");
        int[] far = {0, 1, 2, 3, 4, 5, 6, 5, 4, 3, 2, 1};
        for (int at = 0; at < 12; at++) {
            Play x = s.play("signer 0 1;").does("alter(0, 1, " + at + ")");
            for (int steps = 0; steps < 12; steps++) {
                x.does("go(" + (at + steps) % 12 + ")").due("glove(0, 4)", far[steps]);
            }
        }
    }

    /** The man behind it or as FAR: the next one. The man up to five doors ahead: the other one. */
    private void shyIfBothAreAsFar() {
        s.ofTerms("to whichever is FARTHER from THE MAN (to the next one, if both are as FAR)");
        stepsAbout("shy", new int[] {1, 11, 11, 11, 11, 11, 1, 1, 1, 1, 1, 1});
    }

    private void boldIfBothAreAsFar() {
        s.ofTerms("bold as shy, but NEARER (to the next one, if both are as FAR).");
        stepsAbout("bold", new int[] {1, 1, 1, 1, 1, 1, 1, 11, 11, 11, 11, 11});
    }

    private void stepsAbout(String kind, int[] by) {
        for (int at = 0; at < 12; at++) {
            Play x = s.play(kind + " 0 1;").does("alter(0, 1, " + at + ")");
            for (int steps = 0; steps < 12; steps++) {
                x.does("go(" + (at + steps) % 12 + ")").due("glove(0, 5)", (at + by[steps]) % 12);
            }
        }
    }

    // ---- what is changed

    private void ofChanges() {
        alterWithinBounds();
        alterOfPaired();
        fameWithinBounds();
        leaveOfNone();
        leaveOfUnpaired();
        goMeetsNobody();
        goWithinBounds();
        callWithinBounds();
        cutWithinBounds();
    }

    private void alterWithinBounds() {
        s.ofPromise(10, "KIND, AT, WARM (what 0 to 2) of a GLOVE becomes v: what it was. BAD;");
        Play x = s.play("signer 2 6;bold 9 4;");
        x.refused(BAD, "alter(-1, 0, 0)", "alter(2, 0, 0)", "alter(4, 0, 0)", "alter(MIN, 1, 0)", "alter(MAX, 2, 0)");
        x.refused(BAD, "alter(0, -1, 0)", "alter(0, 3, 0)", "alter(0, MIN, 0)", "alter(0, MAX, 0)", "alter(0, 3, -1)");
        x.refused(BAD, "alter(0, 0, -1)", "alter(0, 0, 4)", "alter(0, 1, -1)", "alter(0, 1, 12)", "alter(0, 2, -1)",
            "alter(0, 2, 21)", "alter(0, 0, MIN)", "alter(0, 1, MAX)", "alter(0, 2, MAX)");
        x.due("alter(1, 0, 0)", 3).due("alter(1, 0, 3)", 0).due("alter(1, 0, 3)", 3);
        x.due("alter(1, 1, 0)", 9).due("alter(1, 1, 11)", 0).due("glove(1, 1)", 11);
        x.due("alter(1, 2, 0)", 4).due("alter(1, 2, 20)", 0).due("glove(1, 2)", 20);
        x.due("glove(0, 0)", 0).due("glove(0, 1)", 2).due("glove(0, 2)", 6);
    }

    private void alterOfPaired() {
        s.ofPromise(10, "STATE: AT of one that is PAIRED.");
        Play x = s.play("signer 2 6;signer 5 6;man 3;").does("days(1)");
        x.refused(STATE, "alter(0, 1, 0)", "alter(0, 1, 3)", "alter(0, 1, 11)");
        x.refused(BAD, "alter(0, 1, 12)", "alter(0, 1, -1)").due("alter(1, 1, 3)", 6);
        x.due("alter(0, 0, 3)", 0).due("alter(0, 2, 0)", 6).due("alter(0, 2, 20)", 0);
        x.does("leave(0)").due("alter(0, 1, 0)", 3);
    }

    private void fameWithinBounds() {
        s.ofPromise(11, "FAME of a DOOR becomes v: what it was. BAD.");
        Play x = s.play("fame 1;").refused(BAD, "fame(-1, 0)", "fame(12, 0)", "fame(MIN, 0)", "fame(MAX, 0)");
        x.refused(BAD, "fame(0, -1)", "fame(0, 10)", "fame(0, MIN)", "fame(0, MAX)", "fame(12, 10)");
        x.due("fame(0, 0)", 1).due("fame(0, 9)", 0).due("fame(11, 9)", 0).due("fame(11, 9)", 9).due("count(5)", 18);
    }

    private void leaveOfNone() {
        s.ofPromise(12, "(not PAIRED): AT which DOOR. BAD;");
        Play x = s.play("signer 2 6;signer 10 1;man 3;").does("days(1)");
        x.refused(BAD, "leave(-1)", "leave(2)", "leave(4)", "leave(MIN)", "leave(MAX)");
        x.does("go(11)").due("leave(0)", 11).due("glove(0, 1)", 11).due("glove(0, 3)", 0);
    }

    private void leaveOfUnpaired() {
        s.ofPromise(12, "STATE: it is not PAIRED.");
        Play x = s.play("signer 2 6;signer 3 0;man 3;").refused(STATE, "leave(0)", "leave(1)").does("days(1)");
        x.due("leave(0)", 3).refused(STATE, "leave(0)", "leave(1)");
    }

    private void goMeetsNobody() {
        s.ofPromise(13, "(what is PAIRED, too; he meets nobody by that)");
        Play x = s.play("signer 2 6;signer 5 6;signer 8 0;man 3;").does("days(1)");
        x.due("go(6)", 3).due("rule(4)", 1).due("glove(0, 1)", 6).due("glove(1, 1)", 6).due("door(6, 1)", 3);
        x.due("go(8)", 6).due("rule(4)", 1).due("glove(0, 1)", 8).due("glove(1, 1)", 6).due("glove(0, 2)", 6);
        x.due("go(8)", 8).due("rule(1)", 1).due("rule(3)", 0);
    }

    private void goWithinBounds() {
        s.ofPromise(13, "AT which he was. BAD.");
        Play x = s.play("signer 2 6;man 3;").does("days(1)").refused(BAD, "go(-1)", "go(12)", "go(MIN)", "go(MAX)");
        x.due("go(0)", 3).due("go(11)", 0).due("rule(2)", 11);
    }

    private void callWithinBounds() {
        s.ofPromise(14, "A CALL more in THE ROUTE: how many it has. BAD; FULL.");
        Play x = s.play().refused(BAD, "call(-1)", "call(12)", "call(MIN)", "call(MAX)");
        x.due("call(0)", 1).due("call(11)", 2).due("call(11)", 3).due("call(1)", 4).due("call(2)", 5).due("call(3)", 6);
        x.refused(FULL, "call(0)", "call(11)").refused(BAD, "call(12)", "call(-1)");
        x.does("cut(5)").due("call(4)", 6).due("stop(5)", 4).due("call(4)", FULL);
    }

    private void cutWithinBounds() {
        s.ofPromise(15, "THE ROUTE has its first n CALLS alone: how many it had. BAD.");
        s.play().due("cut(0)", 0).refused(BAD, "cut(1)", "cut(-1)");
        Play x = s.play("route 5 6 7;").refused(BAD, "cut(4)", "cut(6)", "cut(-1)", "cut(MIN)", "cut(MAX)");
        x.due("cut(3)", 3).due("cut(2)", 3).due("stop(1)", 6).due("stop(2)", BAD).refused(BAD, "cut(3)");
        x.does("call(9)").due("stop(2)", 9).due("cut(0)", 3).due("rule(6)", 0).due("stop(0)", BAD);
        s.play("route 1 2 3 4 5 6;").due("cut(6)", 6).due("stop(5)", 6).refused(BAD, "cut(7)");
    }
}
