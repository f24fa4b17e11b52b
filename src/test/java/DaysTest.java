/** Promises 16 to 19: days that pass, and days as they would. */
public final class DaysTest {
    private static final Check C = new Check("DaysTest");

    public static void main(String[] args) {
        aDay();
        coldOneIsNotMet();
        pairedOneGetsWarm();
        routeByDay();
        dayIsFull();
        nameHasAnEnd();
        runs();
        ahead();
        meets();
        byDaysChangesNothing();
        C.finish();
    }

    private static void aDay() {
        GloveAbout x = Check.told("signer 2 6;dancer 4 3;bold 9 1;shy 0 2;fame 1 2 3 4 5 6 7 8 9 1 2 3;route 6 3;");
        // The man at 6: signer to 3 (4), dancer to 6 (met), bold to 8 (9), shy to 1 (both 5 far: the next; 2).
        C.due("days(1)", x.days(1), 15);
        C.due("rule(2)", x.rule(2), 6);
        C.due("rule(1)", x.rule(1), 1);
        C.due("rule(3)", x.rule(3), 15);
        C.due("rule(4)", x.rule(4), 2);
        C.due("rule(5)", x.rule(5), 4);
        int[][] behind = {{3, 5}, {6, 3}, {8, 0}, {1, 1}};
        for (int g = 0; g < 4; g++) {
            C.due("glove(" + g + ", 1)", x.glove(g, 1), behind[g][0]);
            C.due("glove(" + g + ", 2)", x.glove(g, 2), behind[g][1]);
        }
        // The man at 3: signer to 4 (5), dancer at 3 and warmer, bold is cold, shy to 0 (1).
        C.due("days(1)", x.days(1), 6);
        int[][] then = {{4, 4}, {3, 4}, {8, 0}, {0, 0}};
        for (int g = 0; g < 4; g++) {
            C.due("glove(" + g + ", 1)", x.glove(g, 1), then[g][0]);
            C.due("glove(" + g + ", 2)", x.glove(g, 2), then[g][1]);
        }
        C.due("days(0)", x.days(0), 0);
        C.due("rule(1)", x.rule(1), 2);
        C.due("days(-1)", x.days(-1), GloveAbout.BAD);
        C.due("days(31)", x.days(31), GloveAbout.BAD);
        C.due("days(30)", x.days(30), x.rule(3) - 21);
        C.due("rule(1)", x.rule(1), 32);
    }

    private static void coldOneIsNotMet() {
        GloveAbout x = Check.told("signer 3 0;signer 2 1;route 3;");
        x.days(2);
        C.due("a cold one at his door", x.rule(4), 2);
        C.due("it stays", x.glove(0, 1), 3);
        C.due("and is cold", x.rule(5), 1);
        x.alter(0, 2, 12);
        x.days(11);
        C.due("a warm one goes round", x.rule(4), 2);
        x.days(1);
        C.due("and is met", x.rule(4), 3);
        C.due("its last step costs nothing", x.glove(0, 2), 1);
    }

    private static void pairedOneGetsWarm() {
        GloveAbout x = Check.told("signer 2 18;fame 9 9 9 9 9 9 9 9 9 9 9 9;route 3 7;");
        C.due("days(1)", x.days(1), 0);
        C.due("glove(0, 2) on the day it is met", x.glove(0, 2), 18);
        x.days(1);
        C.due("glove(0, 2)", x.glove(0, 2), 19);
        C.due("glove(0, 1)", x.glove(0, 1), 7);
        x.days(2);
        C.due("glove(0, 2): 20 at most", x.glove(0, 2), 20);
        C.due("a paired one does nothing", x.rule(3), 0);
    }

    private static void routeByDay() {
        GloveAbout x = Check.told("route 4 8 1;man 5;");
        int[] doors = {4, 8, 1, 4};
        for (int d : doors) {
            x.days(1);
            C.due("rule(2)", x.rule(2), d);
        }
        x.cut(0);
        x.days(3);
        C.due("he stays", x.rule(2), 4);
        x.call(6);
        x.call(9);
        x.days(1);
        C.due("DAY 7 modulo 2", x.rule(2), 9);
    }

    private static void dayIsFull() {
        GloveAbout x = new GloveAbout();
        for (int i = 0; i < 33; i++) {
            x.days(30);
        }
        C.due("rule(1)", x.rule(1), 990);
        C.due("days(10)", x.days(10), GloveAbout.FULL);
        C.due("days(31)", x.days(31), GloveAbout.BAD);
        C.due("rule(1)", x.rule(1), 990);
        C.due("days(9)", x.days(9), 0);
        C.due("rule(1)", x.rule(1), 999);
        C.due("days(1)", x.days(1), GloveAbout.FULL);
        C.due("days(0)", x.days(0), 0);
        C.due("runs(60, 3) goes beyond", x.runs(60, 3), 0);
    }

    /** An object whose NAME is 9990 (four cold gloves, all doors of FAME 9, the man at 0). */
    static GloveAbout nearTheEndOfName() {
        GloveAbout x = Check.told("signer 0 0;signer 0 0;signer 0 0;signer 0 0;fame 9 9 9 9 9 9 9 9 9 9 9 9;man 0;");
        for (int round = 0; round < 28; round++) {
            int last = Math.min(10, (9990 - x.rule(3)) / 36);
            for (int g = 0; g < 4; g++) {
                x.alter(g, 1, 0);
                x.alter(g, 2, last);
            }
            x.days(11);
        }
        for (int g = 0; g < 2; g++) {
            x.alter(g, 1, 0);
            x.alter(g, 2, 1);
        }
        x.days(1);
        return x;
    }

    private static void nameHasAnEnd() {
        GloveAbout x = nearTheEndOfName();
        C.due("rule(3)", x.rule(3), 9990);
        C.due("rule(4)", x.rule(4), 0);
        C.due("rule(5)", x.rule(5), 15);
        x.alter(0, 1, 1);
        x.alter(0, 2, 5);
        C.due("runs(1, 0)", x.runs(1, 0), 9);
        C.due("runs(2, 0)", x.runs(2, 0), 9);
        x.fame(2, 8);
        C.due("runs(1, 0)", x.runs(1, 0), 8);
        C.due("runs(2, 0)", x.runs(2, 0), 9);
        C.due("mean(0, 2, 0)", x.mean(0, 2, 0), 9);
        C.due("drift(2, 3, 0)", x.drift(2, 3, 0), 9);
        C.due("kind(0, 4, 1)", x.kind(0, 4, 1), 9);
        C.due("drop(0, 4, 1)", x.drop(0, 4, 1), 9);
        C.due("days(2)", x.days(2), 9);
        C.due("rule(3)", x.rule(3), 9999);
        C.due("days(2)", x.days(2), 0);
        C.due("rule(3)", x.rule(3), 9999);
    }

    private static void runs() {
        GloveAbout x = Check.told("signer 2 6;bold 9 4;fame 0 0 0 5 6 7 0 0 0 0 3 2;route 5 11;man 1;");
        C.due("runs(0, 0)", x.runs(0, 0), 0);
        C.due("runs(1, 0)", x.runs(1, 0), 5);
        C.due("runs(2, 0)", x.runs(2, 0), 11);
        C.due("runs(2, 1)", x.runs(2, 1), 0);
        C.due("runs(3, 1)", x.runs(3, 1), 1);
        C.due("runs(3, 2)", x.runs(3, 2), 0);
        C.due("runs(4, 2)", x.runs(4, 2), 2);
        C.due("runs(0, 3)", x.runs(0, 3), 1);
        C.due("runs(3, 3)", x.runs(3, 3), 5);
        C.due("runs(4, 3)", x.runs(4, 3), 11);
        C.due("runs(2, 4)", x.runs(2, 4), GloveAbout.NONE);
        C.due("runs(3, 4)", x.runs(3, 4), 3);
        C.due("runs(60, 4)", x.runs(60, 4), 3);
        C.due("runs(60, 1)", x.runs(60, 1), 1);
        x.days(3);
        C.due("runs(60, 4): one that was not now", x.runs(60, 4), GloveAbout.NONE);
        C.due("runs(0, 1)", x.runs(0, 1), 1);
        C.due("runs(-1, 0)", x.runs(-1, 0), GloveAbout.BAD);
        C.due("runs(61, 0)", x.runs(61, 0), GloveAbout.BAD);
        C.due("runs(0, -1)", x.runs(0, -1), GloveAbout.BAD);
        C.due("runs(0, 5)", x.runs(0, 5), GloveAbout.BAD);
    }

    private static void ahead() {
        GloveAbout x = Check.told("signer 2 6;bold 9 4;route 5 11;man 1;");
        C.due("ahead(0, 0, 0)", x.ahead(0, 0, 0), 2);
        C.due("ahead(0, 0, 1)", x.ahead(0, 0, 1), 6);
        C.due("ahead(0, 2, 0)", x.ahead(0, 2, 0), 4);
        C.due("ahead(0, 2, 1)", x.ahead(0, 2, 1), 4);
        C.due("ahead(0, 3, 0)", x.ahead(0, 3, 0), 5);
        C.due("ahead(0, 4, 0)", x.ahead(0, 4, 0), 11);
        C.due("ahead(0, 4, 1)", x.ahead(0, 4, 1), 5);
        C.due("ahead(1, 60, 1)", x.ahead(1, 60, 1), 0);
        C.due("ahead(0, 60, 1)", x.ahead(0, 60, 1), 20);
        C.due("ahead(2, 0, 0)", x.ahead(2, 0, 0), GloveAbout.BAD);
        C.due("ahead(-1, 0, 0)", x.ahead(-1, 0, 0), GloveAbout.BAD);
        C.due("ahead(0, 61, 0)", x.ahead(0, 61, 0), GloveAbout.BAD);
        C.due("ahead(0, -1, 0)", x.ahead(0, -1, 0), GloveAbout.BAD);
        C.due("ahead(0, 0, 2)", x.ahead(0, 0, 2), GloveAbout.BAD);
        C.due("ahead(0, 0, -1)", x.ahead(0, 0, -1), GloveAbout.BAD);
    }

    private static void meets() {
        GloveAbout x = Check.told("signer 2 6;bold 9 4;signer 0 20;signer 3 3;route 5 11;man 1;");
        C.due("meets(0)", x.meets(0), 3);
        C.due("meets(1)", x.meets(1), GloveAbout.NONE);
        C.due("meets(2)", x.meets(2), 5);
        C.due("meets(3)", x.meets(3), GloveAbout.NONE);
        C.due("meets(4)", x.meets(4), GloveAbout.BAD);
        C.due("meets(-1)", x.meets(-1), GloveAbout.BAD);
        x.days(3);
        C.due("meets(0) of a paired one", x.meets(0), 0);
    }

    private static void byDaysChangesNothing() {
        GloveAbout x = Check.told("signer 2 6;bold 9 4;fame 1 2 3;route 5 11;man 1;");
        String before = Check.stateOf(x);
        x.runs(60, 0);
        x.runs(60, 4);
        x.ahead(0, 60, 0);
        x.meets(1);
        C.holds("all is as it was", before.equals(Check.stateOf(x)));
    }
}
