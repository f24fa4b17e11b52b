/** Boundary cases of A DAY and of days ahead: promises 16 to 19 and their terms. */
final class DayBoundaries {
    /** The signer is met behind 20 DAYS, AT 8, on the last step that WARM 20 lets it make; never AT 8 behind 8. */
    static final String LATE = "signer 0 20;fame 0 0 0 0 0 0 0 1;route 0 1 0 0 8;";
    /** The same one is not met by its 20 steps; it would be by a 21st. */
    static final String TOO_LATE = "signer 0 20;route 9 1 0 0 0;";
    private static final int BAD = GloveAbout.BAD;
    private static final int FULL = GloveAbout.FULL;
    private static final int NONE = GloveAbout.NONE;
    private final Sentences s;

    private DayBoundaries(Sentences s) {
        this.s = s;
    }

    static void all(Sentences s) {
        DayBoundaries all = new DayBoundaries(s);
        all.ofTheMan();
        all.ofGloves();
        all.ofDays();
        all.ofDaysAhead();
    }

    /** NAME is 9972; four shy ones AT 7 are to make it 36 more on the next DAY, if it had no end. */
    static Play nearTheEndOfName(Sentences s) {
        Play x = s.play("shy 6 20;shy 6 20;shy 6 20;shy 6 20;fame 0 0 0 0 0 0 9 9;");
        for (int round = 0; round < 13; round++) {
            x.does("days(20)", "alter(0, 2, 20)", "alter(1, 2, 20)", "alter(2, 2, 20)", "alter(3, 2, 20)");
        }
        return x.due("days(17)", 17 * 36).due("rule(3)", 9972);
    }

    /** DAY is 999. */
    static Play onTheLastDay(Sentences s, String text) {
        Play x = s.play(text);
        for (int i = 0; i < 33; i++) {
            x.does("days(30)");
        }
        return x.does("days(9)").due("rule(1)", 999);
    }

    // ---- A DAY

    private void ofTheMan() {
        callByDay();
        callsBehindTheLastDay();
        dayIsOneMore();
    }

    private void callByDay() {
        s.ofTerms("THE MAN goes to the DOOR of CALL DAY modulo how many CALLS there are (stays, if there are none).");
        Play x = s.play("route 1 2 3 4 5 6;man 9;").due("runs(0, 3)", 9).due("runs(60, 3)", 6);
        for (int day = 0; day < 7; day++) {
            x.does("days(1)").due("rule(2)", 1 + day % 6);
        }
        x.does("cut(2)", "days(1)").due("rule(2)", 2).does("cut(1)").due("runs(1, 3)", 1).due("runs(60, 3)", 1);
        x.does("cut(0)").due("runs(60, 3)", 2).does("days(30)").due("rule(2)", 2);
        s.play("man 11;").due("runs(60, 3)", 11).does("days(1)").due("rule(2)", 11);
    }

    private void callsBehindTheLastDay() {
        s.ofTerms("BY DAYS: as it would be from now on.");
        Play x = onTheLastDay(s, "route 1 2 3 4 5 6;").due("rule(2)", 3);
        x.due("runs(1, 3)", 4).due("runs(2, 3)", 5).due("runs(60, 3)", 3).due("rule(1)", 999);
    }

    private void dayIsOneMore() {
        s.ofTerms("DAY is 1 more.");
        s.play().does("days(0)").due("rule(1)", 0).does("days(1)").due("rule(1)", 1).does("days(30)")
            .due("rule(1)", 31);
    }

    private void ofGloves() {
        pairedOneIsWarmer();
        coldOneStays();
        lastStep();
        nameHasAnEnd();
        coldOneIsNotPaired();
    }

    private void pairedOneIsWarmer() {
        s.ofTerms("one that is PAIRED is AT his DOOR, and WARM 1 more (20 at most)");
        Play x = s.play("signer 2 18;route 3 11;").does("days(1)").due("glove(0, 3)", 1).due("glove(0, 2)", 18);
        x.does("days(1)").due("glove(0, 2)", 19).due("glove(0, 1)", 11);
        x.does("days(1)").due("glove(0, 2)", 20).due("glove(0, 1)", 3);
        x.does("days(1)").due("glove(0, 2)", 20).due("glove(0, 1)", 11).due("ahead(0, 60, 1)", 20);
        x.does("alter(0, 2, 0)", "days(1)").due("glove(0, 2)", 1).due("glove(0, 3)", 1);
    }

    private void coldOneStays() {
        s.ofTerms("one that is COLD stays where it is");
        String[] kinds = {"signer", "dancer", "shy", "bold"};
        for (String kind : kinds) {
            Play x = s.play(kind + " 5 0;fame 9 9 9 9 9 9 9 9 9 9 9 9;route 4 6;").due("days(30)", 0);
            x.due("glove(0, 1)", 5).due("glove(0, 2)", 0).due("ahead(0, 60, 0)", 5).due("rule(4)", 0);
        }
    }

    private void lastStep() {
        s.ofTerms("is it AT his DOOR then, it is PAIRED; else NAME is more by FAME of its DOOR");
        Play x = s.play("signer 2 1;signer 6 1;fame 9 9 9 9 9 9 9 5;man 3;").due("days(1)", 5);
        x.due("rule(4)", 1).due("rule(5)", 2).due("glove(0, 2)", 1).due("glove(1, 2)", 0).due("days(30)", 0);
    }

    private void nameHasAnEnd() {
        s.ofTerms("(9999 at most), WARM is 1 less.");
        Play x = nearTheEndOfName(s).due("runs(1, 0)", 27).due("runs(60, 0)", 27);
        x.due("glove(0, 2)", 3).due("days(1)", 27).due("rule(3)", 9999).due("glove(3, 2)", 2);
        x.due("days(1)", 0).due("rule(3)", 9999).due("runs(60, 0)", 0).due("glove(3, 2)", 1);
        Play three = nearTheEndOfName(s).does("alter(0, 2, 0)").due("days(1)", 27).due("rule(3)", 9999);
        three.due("days(1)", 0);
        nearTheEndOfName(s).does("alter(0, 2, 0)", "fame(6, 8)").due("days(1)", 24).due("days(1)", 3)
            .due("rule(3)", 9999);
    }

    private void coldOneIsNotPaired() {
        s.ofTerms("A COLD one AT his DOOR is not PAIRED.");
        Play x = s.play("signer 3 0;signer 1 1;man 3;").does("days(1)").due("rule(4)", 0).due("rule(5)", 3);
        x.does("go(2)").due("rule(4)", 0).does("days(1)").due("rule(4)", 0).due("meets(0)", NONE).due("meets(1)", NONE);
    }

    // ---- days

    private void ofDays() {
        daysWithinBounds();
        dayOfAThousand();
    }

    private void daysWithinBounds() {
        s.ofPromise(16, "n DAYS (0 to 30): by how much NAME is more. BAD;");
        Play x = s.play("shy 6 20;fame 0 0 0 0 0 0 9 8;").refused(BAD, "days(-1)", "days(31)", "days(MIN)",
            "days(MAX)");
        x.due("days(0)", 0).due("rule(1)", 0).due("glove(0, 2)", 20).due("days(30)", 170).due("rule(1)", 30);
        x.due("days(30)", 0).due("rule(3)", 170);
    }

    private void dayOfAThousand() {
        s.ofPromise(16, "FULL: DAY would be 1000 or more.");
        Play x = s.play("shy 6 0;fame 0 0 0 0 0 0 9 9;").does("keep(0)");
        for (int i = 0; i < 33; i++) {
            x.does("days(30)");
        }
        x.does("alter(0, 2, 20)").refused(FULL, "days(10)", "days(30)").refused(BAD, "days(31)", "days(-1)");
        x.due("days(9)", 81).due("rule(1)", 999).refused(FULL, "days(1)", "days(30)").refused(BAD, "days(31)");
        x.due("days(0)", 0).due("runs(11, 0)", 99).due("back(0)", 0).due("days(30)", 0).due("rule(1)", 30);
    }

    // ---- days ahead

    private void ofDaysAhead() {
        runsWithinBounds();
        runsOfFirstPaired();
        aheadWithinBounds();
        meetsWithinBounds();
        meetsOfNone();
    }

    private void runsWithinBounds() {
        s.ofPromise(17, "BY DAYS, n of them (0 to 60): by how much NAME is more then (what 0)");
        Play x = s.play(LATE).refused(BAD, "runs(-1, 0)", "runs(61, 0)", "runs(MIN, 4)", "runs(MAX, 4)", "runs(61, 5)");
        x.all(0, "runs(0, 0)", "runs(0, 1)", "runs(0, 2)", "runs(0, 3)", "runs(6, 0)", "runs(19, 1)", "runs(60, 2)");
        x.due("runs(7, 0)", 1).due("runs(18, 0)", 1).due("runs(19, 0)", 2).due("runs(60, 0)", 2);
        x.due("runs(20, 1)", 1).due("runs(60, 1)", 1).due("runs(60, 3)", 8).due("runs(59, 3)", 0);
        x.does("alter(0, 2, 19)").due("runs(18, 2)", 0).due("runs(19, 2)", 1).due("runs(60, 2)", 1)
            .due("runs(60, 1)", 0);
    }

    private void runsOfFirstPaired() {
        s.ofPromise(17, "behind how many first one is PAIRED that was not now (4; NONE). BAD.");
        Play x = s.play(LATE).refused(BAD, "runs(0, -1)", "runs(0, 5)", "runs(60, MIN)", "runs(60, MAX)");
        x.refused(NONE, "runs(0, 4)", "runs(19, 4)").due("runs(20, 4)", 20).due("runs(60, 4)", 20);
        x.does("days(20)").due("rule(4)", 1).refused(NONE, "runs(0, 4)", "runs(60, 4)");
        s.play(TOO_LATE).refused(NONE, "runs(60, 4)");
        s.play("signer 2 6;signer 1 6;man 3;").due("runs(1, 4)", 1).does("days(1)").due("runs(1, 4)", 1)
            .due("runs(0, 4)", NONE);
    }

    private void aheadWithinBounds() {
        s.ofPromise(18, "BY DAYS, n of them (0 to 60): AT which DOOR a GLOVE is then (what 0), how WARM (1). BAD.");
        Play x = s.play(LATE).refused(BAD, "ahead(-1, 0, 0)", "ahead(1, 0, 0)", "ahead(4, 0, 0)", "ahead(MIN, 0, 0)");
        x.refused(BAD, "ahead(0, -1, 0)", "ahead(0, 61, 0)", "ahead(0, MIN, 1)", "ahead(0, MAX, 1)",
            "ahead(MAX, 0, 0)");
        x.refused(BAD, "ahead(0, 0, -1)", "ahead(0, 0, 2)", "ahead(0, 0, MIN)", "ahead(0, 0, MAX)");
        x.due("ahead(0, 0, 0)", 0).due("ahead(0, 0, 1)", 20).due("ahead(0, 11, 0)", 11).due("ahead(0, 12, 0)", 0);
        x.due("ahead(0, 19, 0)", 7).due("ahead(0, 19, 1)", 1).due("ahead(0, 20, 0)", 8).due("ahead(0, 20, 1)", 1);
        x.due("ahead(0, 38, 1)", 19).due("ahead(0, 39, 1)", 20).due("ahead(0, 60, 1)", 20).due("ahead(0, 60, 0)", 8);
        s.play(TOO_LATE).due("ahead(0, 20, 1)", 0).due("ahead(0, 60, 1)", 0).due("ahead(0, 60, 0)", 8);
    }

    private void meetsWithinBounds() {
        s.ofPromise(19, "BY DAYS: behind how many (0 to 60) a GLOVE is PAIRED first. BAD;");
        Play x = s.play(LATE).refused(BAD, "meets(-1)", "meets(1)", "meets(4)", "meets(MIN)", "meets(MAX)");
        x.due("meets(0)", 20).does("days(19)").due("meets(0)", 1).does("days(1)").due("meets(0)", 0);
        x.does("days(30)").due("meets(0)", 0);
    }

    private void meetsOfNone() {
        s.ofPromise(19, "NONE: behind none.");
        s.play(TOO_LATE).refused(NONE, "meets(0)");
        s.play(LATE).does("alter(0, 2, 19)").refused(NONE, "meets(0)");
        s.play("signer 3 0;dancer 4 20;man 3;").refused(NONE, "meets(0)", "meets(1)");
    }
}
