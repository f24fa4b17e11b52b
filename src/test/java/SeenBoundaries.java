/** Boundary cases of what was SEEN: promises 29 to 33 and their terms. */
final class SeenBoundaries {
    private static final int BAD = GloveAbout.BAD;
    private static final int STATE = GloveAbout.STATE;
    private static final int FULL = GloveAbout.FULL;
    private static final int NONE = GloveAbout.NONE;
    private static final int ALL_KINDS = 15;
    private static final int ALL_DOORS = 4095;
    /** The signer is not met, and COLD AT 8 behind 20 DAYS. */
    private static final String NEVER = "signer 0 20;route 0 1 0 0 0;";
    private final Sentences s;

    private SeenBoundaries(Sentences s) {
        this.s = s;
    }

    static void all(Sentences s) {
        SeenBoundaries all = new SeenBoundaries(s);
        all.sixFromNowOn();
        all.seeWithinBounds();
        all.forgetWithinBounds();
        all.kindsOfNoneAndAll();
        all.doorsOfNoneAndAll();
        all.doorsOfPaired();
        all.askAtTheWorst();
        all.askWithinBounds();
    }

    private void sixFromNowOn() {
        s.ofTerms("SEEN (6): behind n DAYS (0 to 20) from now on a GLOVE is AT a DOOR.");
        Play x = s.play(NEVER).does("see(0, 0, 0)").due("doors(0)", 1).does("days(1)").due("doors(0)", 1);
        x.due("kinds(0)", 0).does("days(11)").due("glove(0, 1)", 0).due("kinds(0)", ALL_KINDS);
        Play each = s.play("signer 2 9;man 1;").does("see(2, 0, 4)").due("doors(0)", 4).does("see(1, 0, 3)");
        each.due("doors(0)", 4).does("see(0, 0, 2)").due("doors(0)", 4).does("see(9, 0, 11)").due("doors(0)", 4);
        Play last = s.play(NEVER).does("see(20, 0, 8)").due("doors(0)", 1).dueBit("kinds(0)", 0, 1);
        last.does("days(1)").dueBit("kinds(0)", 0, 1).does("forget(0)", "see(20, 0, 9)").dueBit("kinds(0)", 0, 0);
        Play six = s.play(NEVER);
        for (int i = 1; i <= 6; i++) {
            six.due("see(20, 0, 8)", i);
        }
        six.refused(FULL, "see(20, 0, 8)").due("count(0)", 6).due("doors(0)", 1);
    }

    private void seeWithinBounds() {
        s.ofPromise(29, "SEEN: behind n DAYS (0 to 20) a GLOVE is AT DOOR d: how many are. BAD; FULL.");
        Play x = s.play("signer 2 9;bold 3 3;").refused(BAD, "see(-1, 0, 0)", "see(21, 0, 0)", "see(MIN, 0, 0)");
        x.refused(BAD, "see(0, -1, 0)", "see(0, 2, 0)", "see(0, 4, 0)", "see(0, MAX, 0)", "see(MAX, 0, 0)");
        x.refused(BAD, "see(0, 0, -1)", "see(0, 0, 12)", "see(0, 0, MIN)", "see(0, 0, MAX)").due("count(0)", 0);
        x.due("see(0, 0, 0)", 1).due("see(20, 1, 11)", 2).due("see(20, 1, 11)", 3).due("see(0, 1, 0)", 4);
        x.due("see(20, 0, 0)", 5).due("see(0, 0, 11)", 6).refused(FULL, "see(0, 0, 0)", "see(20, 1, 11)");
        x.refused(BAD, "see(21, 0, 0)", "see(-1, 0, 0)", "see(0, 2, 0)", "see(0, 0, 12)");
        x.does("forget(5)").due("see(1, 1, 1)", 6).due("see(1, 1, 1)", FULL);
    }

    private void forgetWithinBounds() {
        s.ofPromise(30, "SEEN are the first n alone: how many there were. BAD.");
        Play x = s.play("signer 2 9;").due("forget(0)", 0).refused(BAD, "forget(1)", "forget(-1)", "forget(MIN)",
            "forget(MAX)");
        x.does("see(0, 0, 2)", "see(0, 0, 3)").due("doors(0)", 0).refused(BAD, "forget(3)", "forget(6)", "forget(7)");
        x.due("forget(2)", 2).due("doors(0)", 0).due("forget(1)", 2).due("doors(0)", 4).refused(BAD, "forget(2)");
        x.due("see(0, 0, 2)", 2).due("forget(0)", 2).due("doors(0)", ALL_DOORS).due("count(0)", 0);
        x.does("see(0, 0, 2)", "see(0, 0, 2)", "see(0, 0, 2)", "see(0, 0, 2)", "see(0, 0, 2)", "see(0, 0, 2)");
        x.due("forget(6)", 6).refused(BAD, "forget(7)").due("forget(5)", 6).due("count(0)", 5);
    }

    private void kindsOfNoneAndAll() {
        s.ofPromise(31, "KINDS of a GLOVE (bits) by which, all else as it is, all is as SEEN. BAD.");
        Play x = s.play("bold 2 9;signer 5 0;man 3;").refused(BAD, "kinds(-1)", "kinds(2)", "kinds(4)", "kinds(MIN)",
            "kinds(MAX)");
        x.due("kinds(0)", ALL_KINDS).due("kinds(1)", ALL_KINDS).does("see(0, 0, 2)").due("kinds(0)", ALL_KINDS);
        x.does("see(20, 1, 5)").due("kinds(1)", ALL_KINDS).does("see(1, 0, 3)").due("kinds(0)", 9);
        x.does("see(1, 0, 4)").due("kinds(0)", 0).due("kinds(1)", 0).does("forget(3)", "days(1)", "forget(0)");
        x.due("rule(4)", 1).due("kinds(0)", ALL_KINDS).does("see(20, 0, 3)").due("kinds(0)", ALL_KINDS);
        x.does("see(20, 0, 2)").due("kinds(0)", 0);
    }

    private void doorsOfNoneAndAll() {
        s.ofPromise(32, "(bits), all else as it is, so that all is as SEEN. BAD;");
        Play x = s.play("signer 2 1;signer 5 0;man 8;").refused(BAD, "doors(-1)", "doors(2)", "doors(4)", "doors(MIN)",
            "doors(MAX)");
        x.due("doors(0)", ALL_DOORS).does("see(1, 0, 0)").due("doors(0)", 1 << 11).does("see(20, 1, 5)")
            .due("doors(0)", 1 << 11);
        x.does("see(20, 1, 6)").due("doors(0)", 0).due("doors(1)", 0).does("forget(0)", "see(20, 1, 0)")
            .due("doors(1)", 1);
        x.due("kinds(1)", 0).does("alter(0, 1, 11)", "forget(0)", "see(1, 0, 0)", "see(20, 1, 0)").due("doors(1)", 1);
    }

    private void doorsOfPaired() {
        s.ofPromise(32, "STATE: it is PAIRED.");
        Play x = s.play("signer 2 1;signer 5 0;man 3;").does("days(1)").refused(STATE, "doors(0)")
            .due("doors(1)", ALL_DOORS);
        x.refused(BAD, "doors(2)", "doors(-1)").does("see(1, 0, 3)").refused(STATE, "doors(0)");
        x.does("leave(0)", "alter(0, 2, 0)").due("doors(0)", 8);
    }

    private void askAtTheWorst() {
        s.ofPromise(33,
            "Behind how many DAYS (0 to 20) to look AT which DOOR a GLOVE is, so that of kinds() of it fewest are "
            + "left at the worst, fewer than now, the first (what 0), how many these are (1).");
        // Behind 13 DAYS they are AT 10, 11, 6, 6, behind 14 AT 11, 1, 5, 7: each by itself for the first time.
        Play late = s.play("signer 9 20;route 3 10 11 0 1 4;").due("ask(0, 0)", 14).due("ask(0, 1)", 1);
        int[] doors = {11, 1, 5, 7};
        for (int kind = 0; kind < 4; kind++) {
            late.does("alter(0, 0, " + kind + ")").due("ahead(0, 14, 0)", doors[kind]).due("ask(0, 0)", 14);
        }
        // Behind 1 DAY AT 3 (met), 4, 1, 3 (met), or AT 3, 4, 3, 3; then they are COLD there.
        s.play("signer 2 1;man 3;").due("ask(0, 0)", 1).due("ask(0, 1)", 2);
        s.play("bold 2 1;man 2;").due("ask(0, 0)", 1).due("ask(0, 1)", 3);
    }

    private void askWithinBounds() {
        s.ofPromise(33, "BAD; NONE: none.");
        Play x = s.play("bold 2 1;signer 5 0;man 2;").refused(BAD, "ask(-1, 0)", "ask(2, 0)", "ask(4, 1)",
            "ask(MIN, 0)");
        x.refused(BAD, "ask(0, -1)", "ask(0, 2)", "ask(0, MIN)", "ask(0, MAX)", "ask(MAX, 0)", "ask(2, 2)");
        x.refused(NONE, "ask(1, 0)", "ask(1, 1)").refused(BAD, "ask(1, 2)");
        x.does("see(1, 0, 3)").due("kinds(0)", 13).refused(NONE, "ask(0, 0)", "ask(0, 1)");
        x.does("forget(0)", "see(1, 0, 4)").due("kinds(0)", 2).refused(NONE, "ask(0, 0)", "ask(0, 1)");
        x.does("forget(0)", "see(0, 0, 4)").due("kinds(0)", 0).refused(NONE, "ask(0, 0)", "ask(0, 1)");
        Play paired = s.play("signer 2 9;route 3 9;").does("days(1)").due("kinds(0)", ALL_KINDS);
        paired.refused(NONE, "ask(0, 0)", "ask(0, 1)");
    }
}
