/** Promises 10 to 15: what is changed by hand. */
public final class ChangeTest {
    private static final Check C = new Check("ChangeTest");

    public static void main(String[] args) {
        alter();
        alterOfPaired();
        fame();
        leave();
        go();
        callAndCut();
        C.finish();
    }

    private static void alter() {
        GloveAbout x = Check.told("signer 2 6;bold 9 4;");
        C.due("alter(0, 0, 3)", x.alter(0, 0, 3), 0);
        C.due("alter(0, 0, 1)", x.alter(0, 0, 1), 3);
        C.due("alter(0, 1, 11)", x.alter(0, 1, 11), 2);
        C.due("alter(0, 1, 0)", x.alter(0, 1, 0), 11);
        C.due("alter(1, 2, 20)", x.alter(1, 2, 20), 4);
        C.due("alter(1, 2, 0)", x.alter(1, 2, 0), 20);
        C.due("rule(5)", x.rule(5), 2);
        C.due("glove(0, 0)", x.glove(0, 0), 1);
        C.due("glove(0, 1)", x.glove(0, 1), 0);
        C.due("glove(0, 2)", x.glove(0, 2), 6);
        C.due("he meets nobody by it", x.rule(4), 0);
        String before = Check.stateOf(x);
        int[][] wrong = {{2, 0, 0}, {-1, 0, 0}, {0, -1, 0}, {0, 3, 0}, {0, 0, 4}, {0, 0, -1}, {0, 1, 12},
            {0, 1, -1}, {0, 2, 21}, {0, 2, -1}, {4, 1, 0}, {0, 3, -1}};
        for (int[] w : wrong) {
            C.due("alter(" + w[0] + ", " + w[1] + ", " + w[2] + ")", x.alter(w[0], w[1], w[2]), GloveAbout.BAD);
        }
        C.holds("nothing is changed", before.equals(Check.stateOf(x)));
    }

    private static void alterOfPaired() {
        GloveAbout x = Check.told("signer 2 6;route 3;");
        x.days(1);
        C.due("alter(0, 1, 5)", x.alter(0, 1, 5), GloveAbout.STATE);
        C.due("alter(0, 1, 3)", x.alter(0, 1, 3), GloveAbout.STATE);
        C.due("alter(0, 1, 12): the first that fits", x.alter(0, 1, 12), GloveAbout.BAD);
        C.due("alter(0, 0, 2)", x.alter(0, 0, 2), 0);
        C.due("alter(0, 2, 0)", x.alter(0, 2, 0), 6);
        C.due("a paired one is not cold", x.rule(5), 0);
        C.due("leave(0)", x.leave(0), 3);
        C.due("left, it is", x.rule(5), 1);
        C.due("alter(0, 1, 5)", x.alter(0, 1, 5), 3);
    }

    private static void fame() {
        GloveAbout x = Check.told("fame 1 2 3;");
        C.due("fame(1, 9)", x.fame(1, 9), 2);
        C.due("fame(1, 0)", x.fame(1, 0), 9);
        C.due("fame(11, 4)", x.fame(11, 4), 0);
        C.due("door(11, 0)", x.door(11, 0), 4);
        C.due("door(0, 0)", x.door(0, 0), 1);
        C.due("fame(12, 0)", x.fame(12, 0), GloveAbout.BAD);
        C.due("fame(-1, 0)", x.fame(-1, 0), GloveAbout.BAD);
        C.due("fame(0, 10)", x.fame(0, 10), GloveAbout.BAD);
        C.due("fame(0, -1)", x.fame(0, -1), GloveAbout.BAD);
        C.due("count(5)", x.count(5), 8);
    }

    private static void leave() {
        GloveAbout x = Check.told("signer 2 6;signer 2 6;bold 7 2;route 3;");
        C.due("leave(0)", x.leave(0), GloveAbout.STATE);
        x.days(1);
        C.due("rule(4)", x.rule(4), 3);
        x.go(8);
        C.due("leave(1)", x.leave(1), 8);
        C.due("rule(4)", x.rule(4), 1);
        C.due("leave(1)", x.leave(1), GloveAbout.STATE);
        C.due("leave(2)", x.leave(2), GloveAbout.STATE);
        C.due("leave(3)", x.leave(3), GloveAbout.BAD);
        C.due("leave(-1)", x.leave(-1), GloveAbout.BAD);
        x.go(1);
        C.due("what was left stays", x.glove(1, 1), 8);
        C.due("what is paired goes", x.glove(0, 1), 1);
        x.days(1);
        C.due("what was left steps", x.glove(1, 1), 9);
    }

    private static void go() {
        GloveAbout x = Check.told("signer 2 6;signer 5 6;man 4;");
        C.due("go(2)", x.go(2), 4);
        C.due("he meets nobody by that", x.rule(4), 0);
        C.due("go(11)", x.go(11), 2);
        C.due("go(0)", x.go(0), 11);
        C.due("go(12)", x.go(12), GloveAbout.BAD);
        C.due("go(-1)", x.go(-1), GloveAbout.BAD);
        C.due("rule(2)", x.rule(2), 0);
        C.due("rule(1)", x.rule(1), 0);
        x.go(3);
        x.days(1);
        C.due("go(9)", x.go(9), 3);
        C.due("the paired one, too", x.glove(0, 1), 9);
        C.due("the other one not", x.glove(1, 1), 6);
        C.due("its warmth stays", x.glove(0, 2), 6);
    }

    private static void callAndCut() {
        GloveAbout x = new GloveAbout();
        C.due("call(12)", x.call(12), GloveAbout.BAD);
        C.due("call(-1)", x.call(-1), GloveAbout.BAD);
        for (int i = 1; i <= 6; i++) {
            C.due("call", x.call(12 - i), i);
        }
        C.due("call(0)", x.call(0), GloveAbout.FULL);
        C.due("call(12)", x.call(12), GloveAbout.BAD);
        C.due("stop(0)", x.stop(0), 11);
        C.due("stop(5)", x.stop(5), 6);
        C.due("cut(7)", x.cut(7), GloveAbout.BAD);
        C.due("cut(-1)", x.cut(-1), GloveAbout.BAD);
        C.due("cut(6)", x.cut(6), 6);
        C.due("cut(2)", x.cut(2), 6);
        C.due("cut(3)", x.cut(3), GloveAbout.BAD);
        C.due("stop(1)", x.stop(1), 10);
        C.due("stop(2)", x.stop(2), GloveAbout.BAD);
        C.due("rule(6)", x.rule(6), 2);
        C.due("call(0)", x.call(0), 3);
        C.due("stop(2)", x.stop(2), 0);
        C.due("cut(0)", x.cut(0), 3);
        C.due("cut(0)", x.cut(0), 0);
    }
}
