/** Promises 20 to 26: which call, which change, which warmth, kind and door is best. */
public final class BestTest {
    private static final int BAD = GloveAbout.BAD;
    private static final int NONE = GloveAbout.NONE;
    private static final Check C = new Check("BestTest");

    public static void main(String[] args) {
        place();
        extra();
        swap();
        shun();
        need();
        kind();
        drop();
        trialsChangeNothing();
        C.finish();
    }

    private static void place() {
        GloveAbout x = Check.told("signer 2 6;signer 5 6;route 0 0;");
        C.due("place(0, 1, 0)", x.place(0, 1, 0), 3);
        C.due("place(0, 1, 1)", x.place(0, 1, 1), 1);
        C.due("place(1, 1, 0): not called yet", x.place(1, 1, 0), 0);
        C.due("place(1, 1, 1)", x.place(1, 1, 1), 0);
        C.due("place(1, 2, 0)", x.place(1, 2, 0), 4);
        // Signers are at 3 and 6, 4 and 7, 5 and 8, 6 and 9: at 6 on day 1 the one, on day 3 (CALL 0 again) none.
        C.due("place(0, 3, 0)", x.place(0, 3, 0), 3);
        C.due("place(0, 0, 0)", x.place(0, 0, 0), 0);
        C.due("place(0, 0, 1)", x.place(0, 0, 1), 0);
        x.alter(1, 1, 2);
        C.due("place(0, 1, 1): two at once", x.place(0, 1, 1), 2);
        x.days(1);
        C.due("place(0, 1, 1): CALL 1 is the next", x.place(0, 1, 1), 0);
        C.due("place(1, 1, 0)", x.place(1, 1, 0), 4);
        x.go(4);
        x.cut(1);
        C.due("place(0, 60, 1)", x.place(0, 60, 1), 2);
        int[][] wrong = {{1, 1, 0}, {-1, 1, 0}, {0, -1, 0}, {0, 61, 0}, {0, 1, 2}, {0, 1, -1}, {6, 1, 0}};
        for (int[] w : wrong) {
            C.due("place(" + w[0] + ", " + w[1] + ", " + w[2] + ")", x.place(w[0], w[1], w[2]), BAD);
        }
        x.cut(0);
        C.due("place(0, 1, 0) without calls", x.place(0, 1, 0), BAD);
        GloveAbout y = Check.told("signer 2 6;dancer 9 0;route 3 8;");
        y.days(1);
        C.due("place(0, 5, 1): the paired one counts", y.place(0, 5, 1), 1);
        C.due("place(0, 5, 0)", y.place(0, 5, 0), 0);
    }

    private static void extra() {
        GloveAbout x = Check.told("signer 2 6;man 9;");
        C.due("extra(1, 0)", x.extra(1, 0), 3);
        C.due("extra(1, 1)", x.extra(1, 1), 1);
        C.due("extra(2, 0)", x.extra(2, 0), 3);
        C.due("extra(0, 0)", x.extra(0, 0), 0);
        C.due("extra(0, 1)", x.extra(0, 1), 0);
        x.call(9);
        C.due("extra(1, 1)", x.extra(1, 1), 0);
        C.due("extra(2, 0)", x.extra(2, 0), 4);
        C.due("extra(60, 1)", x.extra(60, 1), 1);
        C.due("rule(6)", x.rule(6), 1);
        GloveAbout y = Check.told("signer 2 6;signer 1 6;man 9;");
        C.due("extra(2, 1): the one CALL of each day", y.extra(2, 1), 2);
        C.due("extra(2, 0)", y.extra(2, 0), 3);
        for (int i = 0; i < 4; i++) {
            x.call(9);
        }
        C.due("extra(6, 0): the sixth", x.extra(6, 0), 8);
        C.due("extra(5, 1)", x.extra(5, 1), 0);
        x.call(9);
        C.due("extra(6, 0)", x.extra(6, 0), GloveAbout.FULL);
        C.due("extra(61, 0)", x.extra(61, 0), BAD);
        C.due("extra(-1, 0)", x.extra(-1, 0), BAD);
        C.due("extra(0, 2)", x.extra(0, 2), BAD);
        C.due("extra(0, -1)", x.extra(0, -1), BAD);
    }

    private static void swap() {
        GloveAbout x = Check.told("signer 2 6;fame 0 0 0 0 9;route 3 8;man 0;");
        C.due("swap(2, 0)", x.swap(2, 0), 1);
        C.due("swap(2, 1)", x.swap(2, 1), 9);
        C.due("swap(1, 0)", x.swap(1, 0), NONE);
        C.due("swap(1, 1)", x.swap(1, 1), NONE);
        C.due("swap(0, 1)", x.swap(0, 1), NONE);
        x.call(8);
        C.due("swap(2, 0): of several the least", x.swap(2, 0), 1);
        GloveAbout y = Check.told("signer 2 6;signer 3 6;fame 0 0 0 0 9;route 8 4 8;man 0;");
        C.due("runs(3, 0)", y.runs(3, 0), 9);
        C.due("swap(3, 0)", y.swap(3, 0), 12);
        C.due("swap(3, 1): more than now", y.swap(3, 1), 18);
        y.cut(1);
        C.due("swap(3, 0) of one call", y.swap(3, 0), NONE);
        y.cut(0);
        C.due("swap(3, 1) of none", y.swap(3, 1), NONE);
        C.due("swap(61, 0)", y.swap(61, 0), BAD);
        C.due("swap(-1, 0)", y.swap(-1, 0), BAD);
        C.due("swap(1, 2)", y.swap(1, 2), BAD);
        C.due("swap(1, -1)", y.swap(1, -1), BAD);
        GloveAbout z = Check.told("signer 2 6;fame 0 0 0 5;route 8 8 8 8 3 8;man 0;");
        C.due("days(4)", z.days(4), 5);
        z.alter(0, 1, 2);
        C.due("swap(1, 0)", z.swap(1, 0), 4);
        C.due("swap(1, 1): NAME of before is not told again", z.swap(1, 1), 5);
    }

    private static void shun() {
        GloveAbout x = Check.told("signer 2 6;fame 0 0 0 0 9;route 8 4;man 8;");
        C.due("shun(2, 0)", x.shun(2, 0), 1);
        C.due("shun(2, 1)", x.shun(2, 1), 9);
        C.due("shun(1, 0)", x.shun(1, 0), NONE);
        C.due("shun(1, 1)", x.shun(1, 1), NONE);
        x.cut(0);
        C.due("shun(2, 0) of none", x.shun(2, 0), NONE);
        x.call(3);
        C.due("shun(2, 0): he stays without calls", x.shun(2, 0), 0);
        C.due("shun(2, 1)", x.shun(2, 1), 9);
        C.due("rule(6)", x.rule(6), 1);
        C.due("shun(61, 0)", x.shun(61, 0), BAD);
        C.due("shun(-1, 0)", x.shun(-1, 0), BAD);
        C.due("shun(0, 2)", x.shun(0, 2), BAD);
        C.due("shun(0, -1)", x.shun(0, -1), BAD);
        GloveAbout y = Check.told("signer 2 6;signer 3 6;fame 0 0 0 9 9 7;route 4 3 8;man 8;");
        // As it is, glove 1 is met at 4 at once: 9 of glove 0 at 3, 9 at 4. Without CALL 0 glove 0 is met at 3:
        // 9 and 7 of glove 1. Without CALL 1 or 2: 18 as it is.
        C.due("runs(2, 0)", y.runs(2, 0), 18);
        C.due("shun(2, 0)", y.shun(2, 0), NONE);
        y.alter(0, 1, 1);
        // Now without CALL 0: glove 0 at 2 (0), 3 (9), glove 1 at 4 (9), 5 (7).
        C.due("shun(2, 0)", y.shun(2, 0), 0);
        C.due("shun(2, 1)", y.shun(2, 1), 25);
        GloveAbout z = Check.told("signer 3 6;fame 0 0 0 0 0 9;route 3 5 8;man 8;");
        // He is at 5 on day 2 as it is and without CALL 2; without CALL 0 or 1 he is at 8 or at 8: of both the first.
        C.due("shun(2, 0): of several the first", z.shun(2, 0), 0);
        z.days(1);
        z.cut(2);
        // DAY 1: CALL 1 is at 5 and meets it; without CALL 0 that is CALL 0 (1 modulo 1), without CALL 1 he is at 3.
        C.due("shun(1, 0)", z.shun(1, 0), 1);
        GloveAbout full = Check.told("signer 2 9;fame 0 0 0 3 2 0 0 0 9;route 9 9 9 9 9 8;man 9;");
        C.due("days(2)", full.days(2), 5);
        // The glove is at 8 on DAY 5, as he is: 9 are lost, unless a CALL is left out; then he comes to 8 a day ahead.
        C.due("shun(4, 0) of six", full.shun(4, 0), 0);
        C.due("shun(4, 1): more than now", full.shun(4, 1), 9);
    }

    private static void need() {
        GloveAbout x = Check.told("signer 2 1;dancer 0 9;signer 5 0;route 5;");
        C.due("need(0, 3)", x.need(0, 3), 3);
        C.due("need(0, 2)", x.need(0, 2), NONE);
        C.due("need(0, 60)", x.need(0, 60), 3);
        C.due("need(0, 0)", x.need(0, 0), NONE);
        C.due("need(1, 60)", x.need(1, 60), NONE);
        C.due("need(2, 60): all round", x.need(2, 60), 12);
        C.due("need(2, 11)", x.need(2, 11), NONE);
        C.due("need(3, 1)", x.need(3, 1), BAD);
        C.due("need(-1, 1)", x.need(-1, 1), BAD);
        C.due("need(0, 61)", x.need(0, 61), BAD);
        C.due("need(0, -1)", x.need(0, -1), BAD);
        x.alter(0, 2, 3);
        x.days(3);
        C.due("need(0, 0) of a paired one", x.need(0, 0), 0);
        C.due("need(0, 60)", x.need(0, 60), 0);
    }

    private static void kind() {
        GloveAbout x = Check.told("signer 2 6;fame 0 0 0 1 5;man 9;");
        C.due("kind(0, 1, 0)", x.kind(0, 1, 0), 1);
        C.due("kind(0, 1, 1)", x.kind(0, 1, 1), 5);
        C.due("kind(0, 2, 0)", x.kind(0, 2, 0), 0);
        C.due("kind(0, 2, 1)", x.kind(0, 2, 1), 6);
        C.due("kind(0, 0, 0)", x.kind(0, 0, 0), 0);
        C.due("kind(0, 0, 1)", x.kind(0, 0, 1), 0);
        x.fame(1, 8);
        C.due("kind(0, 1, 0)", x.kind(0, 1, 0), 3);
        C.due("kind(0, 1, 1)", x.kind(0, 1, 1), 8);
        x.go(0);
        x.fame(3, 9);
        C.due("kind(0, 2, 0): signer and shy, the first", x.kind(0, 2, 0), 0);
        C.due("glove(0, 0)", x.glove(0, 0), 0);
        int[][] wrong = {{1, 1, 0}, {-1, 1, 0}, {0, -1, 0}, {0, 61, 0}, {0, 1, 2}, {0, 1, -1}};
        for (int[] w : wrong) {
            C.due("kind(" + w[0] + ", " + w[1] + ", " + w[2] + ")", x.kind(w[0], w[1], w[2]), BAD);
        }
        x.go(3);
        x.days(1);
        C.due("kind(0, 5, 0) of a paired one", x.kind(0, 5, 0), 0);
        C.due("kind(0, 5, 1)", x.kind(0, 5, 1), 0);
    }

    private static void drop() {
        GloveAbout x = Check.told("signer 2 6;signer 8 1;fame 0 0 0 1 5 0 0 0 0 4;man 11;");
        C.due("drop(0, 1, 0)", x.drop(0, 1, 0), 3);
        C.due("drop(0, 1, 1): that of the others too", x.drop(0, 1, 1), 9);
        C.due("drop(0, 2, 0)", x.drop(0, 2, 0), 2);
        C.due("drop(0, 2, 1)", x.drop(0, 2, 1), 10);
        C.due("drop(0, 0, 0)", x.drop(0, 0, 0), 0);
        C.due("drop(0, 0, 1)", x.drop(0, 0, 1), 0);
        C.due("glove(0, 1)", x.glove(0, 1), 2);
        x.fame(0, 9);
        C.due("drop(0, 1, 0)", x.drop(0, 1, 0), 11);
        int[][] wrong = {{2, 1, 0}, {-1, 1, 0}, {0, -1, 0}, {0, 61, 0}, {0, 1, 2}, {0, 1, -1}};
        for (int[] w : wrong) {
            C.due("drop(" + w[0] + ", " + w[1] + ", " + w[2] + ")", x.drop(w[0], w[1], w[2]), BAD);
        }
        x.go(3);
        x.days(1);
        C.due("drop(0, 1, 0) of a paired one", x.drop(0, 1, 0), GloveAbout.STATE);
        C.due("drop(0, 61, 0): the first that fits", x.drop(0, 61, 0), BAD);
        C.due("drop(1, 60, 0) of a cold one", x.drop(1, 60, 0), 0);
        C.due("drop(1, 60, 1)", x.drop(1, 60, 1), 0);
    }

    private static void trialsChangeNothing() {
        GloveAbout x = Check.told("signer 2 6;bold 9 4;fame 0 0 0 5 6 7 0 0 0 0 3 2;route 5 11 4;man 1;");
        x.days(1);
        String before = Check.stateOf(x);
        for (int what = 0; what <= 1; what++) {
            x.place(0, 60, what);
            x.extra(60, what);
            x.swap(60, what);
            x.shun(60, what);
            x.kind(1, 60, what);
            x.drop(1, 60, what);
        }
        x.need(1, 60);
        C.holds("all is as it was", before.equals(Check.stateOf(x)));
    }
}
