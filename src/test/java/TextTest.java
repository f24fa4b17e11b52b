/** Promises 1 to 9: a new object, THE TAPE, its faults, and what is asked of the state. */
public final class TextTest {
    private static final Check C = new Check("TextTest");

    public static void main(String[] args) {
        newObject();
        tape();
        taken();
        takenInPlaceOfAll();
        tokens();
        faultsOfTokens();
        faultsOfLines();
        faultsOfNumbers();
        faultsOfToldTwice();
        faultsOfTooMany();
        refusedTextChangesNothing();
        ruleOfState();
        gloveOfState();
        stepsByKind();
        doorAndStop();
        C.finish();
    }

    private static void newObject() {
        GloveAbout x = new GloveAbout();
        for (int what = 0; what <= 6; what++) {
            C.due("new rule(" + what + ")", x.rule(what), 0);
        }
        for (int d = 0; d < 12; d++) {
            C.due("new door(d, 0)", x.door(d, 0), 0);
            C.due("new door(d, 1)", x.door(d, 1), 0);
        }
        C.due("new glove(0, 0)", x.glove(0, 0), GloveAbout.BAD);
        C.due("new stop(0)", x.stop(0), GloveAbout.BAD);
        C.due("new fault()", x.fault(), 0);
        C.due("new torn()", x.torn(), 0);
        for (int what : new int[] {0, 1, 2, 4, 5}) {
            C.due("new count(" + what + ")", x.count(what), 0);
        }
        C.due("new count(3)", x.count(3), GloveAbout.NONE);
        for (int k = 0; k < 4; k++) {
            C.due("new lay(k, 0, 0)", x.lay(k, 0, 0), -11);
        }
    }

    private static void tape() {
        GloveAbout x = new GloveAbout();
        C.due("feed(-1)", x.feed(-1), GloveAbout.BAD);
        C.due("feed(128)", x.feed(128), GloveAbout.BAD);
        C.due("feed(0)", x.feed(0), 1);
        C.due("feed(127)", x.feed(127), 2);
        C.due("end(3)", x.end(3), GloveAbout.BAD);
        C.due("end(-1)", x.end(-1), GloveAbout.BAD);
        C.due("count(2)", x.count(2), 2);
        C.due("end(1)", x.end(1), 2);
        C.due("end(1)", x.end(1), 1);
        C.due("end(0)", x.end(0), 1);
        C.due("end(0)", x.end(0), 0);
        for (int i = 1; i <= 160; i++) {
            C.due("feed(32)", x.feed(32), i);
        }
        C.due("feed(32) on a full tape", x.feed(32), GloveAbout.FULL);
        C.due("feed(128) on a full tape", x.feed(128), GloveAbout.BAD);
        C.due("count(2)", x.count(2), 160);
        C.due("text() of blanks", x.text(), 0);
        C.due("count(2)", x.count(2), 0);
        C.due("text() of nothing", x.text(), 0);
        Check.feedAll(x, "man 3;x");
        C.due("end(6)", x.end(6), 7);
        C.due("text() of what is kept", x.text(), 1);
        C.due("rule(2)", x.rule(2), 3);
    }

    private static void taken() {
        GloveAbout x = new GloveAbout();
        C.due("text()", Check.tell(x, "shy 1 2;man 4;signer 3 20;route 7 0 11;bold 11 0;fame 1 0 9;dancer 0 07;"), 7);
        C.due("fault()", x.fault(), 0);
        C.due("rule(0)", x.rule(0), 4);
        int[][] gloves = {{2, 1, 2}, {0, 3, 20}, {3, 11, 0}, {1, 0, 7}};
        for (int g = 0; g < 4; g++) {
            for (int what = 0; what < 3; what++) {
                C.due("glove(" + g + ", " + what + ")", x.glove(g, what), gloves[g][what]);
            }
            C.due("glove(g, 3)", x.glove(g, 3), 0);
        }
        C.due("rule(2)", x.rule(2), 4);
        C.due("rule(6)", x.rule(6), 3);
        C.due("stop(0)", x.stop(0), 7);
        C.due("stop(1)", x.stop(1), 0);
        C.due("stop(2)", x.stop(2), 11);
        C.due("stop(3)", x.stop(3), GloveAbout.BAD);
        C.due("door(0, 0)", x.door(0, 0), 1);
        C.due("door(1, 0)", x.door(1, 0), 0);
        C.due("door(2, 0)", x.door(2, 0), 9);
        C.due("door(3, 0)", x.door(3, 0), 0);
        C.due("whole rows", Check.tell(x, "fame 9 9 9 9 9 9 9 9 9 9 9 9;route 1 2 3 4 5 6;"), 2);
        C.due("count(5)", x.count(5), 108);
        C.due("stop(5)", x.stop(5), 6);
    }

    private static void takenInPlaceOfAll() {
        GloveAbout x = Check.told("signer 2 6;bold 9 4;fame 1 1 1 1 1 1 1 1 1 1 1 1;route 3 5;man 1;");
        x.days(2);
        x.see(1, 0, 3);
        x.keep(0);
        x.keep(1);
        x.sheet(0, 1, 3);
        C.due("runs(9, 3): nothing of a trial is told either", x.runs(9, 3), 3);
        C.holds("a day has passed and NAME is told", x.rule(1) == 2 && x.rule(3) > 0 && x.rule(4) != 0);
        C.due("text() of nothing tells all", x.text(), 0);
        for (int what = 0; what <= 6; what++) {
            C.due("rule(" + what + ") behind it", x.rule(what), 0);
        }
        C.due("count(0)", x.count(0), 0);
        C.due("count(1)", x.count(1), 0);
        C.due("count(3): sheets stay", x.count(3), 3);
        C.due("count(5)", x.count(5), 0);
        C.due("back(0)", x.back(0), GloveAbout.STATE);
        C.due("back(1)", x.back(1), GloveAbout.STATE);
    }

    private static void tokens() {
        GloveAbout x = new GloveAbout();
        C.due("blanks all about", Check.tell(x, "   signer   1   2  ;  man  3 ;  "), 2);
        C.due("no blank at all but between numbers", Check.tell(x, "signer1 2;man3;route;fame;"), 4);
        C.due("rule(2)", x.rule(2), 3);
        C.due("figures with 0 ahead", Check.tell(x, "signer 01 09;"), 1);
        C.due("glove(0, 2)", x.glove(0, 2), 9);
        C.due("the greatest", Check.tell(x, "signer 11 20;man 11;route 11;fame 9;"), 4);
        C.due("the least", Check.tell(x, "signer 0 0;man 0;route 0;fame 0;"), 4);
    }

    private static void faulty(String text, int fault, int place) {
        GloveAbout x = Check.told("bold 3 3;");
        C.due("text() of '" + text + "'", Check.tell(x, text), -10 - place);
        C.due("fault() of '" + text + "'", x.fault(), fault);
        C.due("bytes left of '" + text + "'", x.count(2), 0);
        C.due("what was told stays", x.glove(0, 0), 3);
        C.due("text() of nothing", x.text(), 0);
        C.due("fault() behind it", x.fault(), 0);
    }

    private static void faultsOfTokens() {
        faulty("Man 3;", 1, 0);
        faulty("man!3;", 1, 3);
        faulty("man -3;", 1, 4);
        faulty("man 3\n;", 1, 5);
        faulty("man\t3;", 1, 3);
        faulty("man 123;", 1, 4);
        faulty("man 000;", 1, 4);
        faulty("  `", 1, 2);
        faulty("{", 1, 0);
        faulty("/", 1, 0);
        faulty(":", 1, 0);
        faulty("man 3;\0", 1, 6);
        faulty("fame 1 2 3 111;", 1, 11);
        // A byte that is no token is not met ahead of a fault of what stands before it.
        faulty("mann !", 2, 0);
        faulty("man 12 !", 3, 4);
    }

    private static void faultsOfLines() {
        faulty("glove 1 1;", 2, 0);
        faulty("mans 1;", 2, 0);
        faulty("ma 1;", 2, 0);
        faulty("signers 1 1;", 2, 0);
        faulty("signe 1 1;", 2, 0);
        faulty("signershy 1 1;", 2, 0);
        faulty("designer 1 1;", 2, 0);
        faulty("hold 1 1;", 2, 0);
        faulty("can 1;", 2, 0);
        faulty("lame;", 2, 0);
        faulty("maz 1;", 2, 0);
        faulty("zoo !", 2, 0);
        faulty("aaa !", 2, 0);
        faulty("man 3; 3;", 2, 7);
        faulty(";", 2, 0);
        faulty("man 3;;", 2, 6);
        faulty("signer 1;", 2, 8);
        faulty("signer ;", 2, 7);
        faulty("signer 1 2 3;", 2, 11);
        faulty("signer man;", 2, 7);
        faulty("man 3 4;", 2, 6);
        faulty("man;", 2, 3);
        faulty("fame 3 man 2;", 2, 7);
        faulty("route 3 route;", 2, 8);
        faulty("man", 2, 3);
        faulty("man   ", 2, 6);
        faulty("man 3", 2, 5);
        faulty("signer", 2, 6);
        faulty("dancer 3 ", 2, 9);
        faulty("shy 3 4", 2, 7);
        faulty("fame", 2, 4);
        faulty("fame 3 ", 2, 7);
        faulty("route 3", 2, 7);
        faulty("man 3;route 1 2 3 4 5 6", 2, 23);
        faulty("fame 1 1 1 1 1 1 1 1 1 1 1 1 man", 2, 29);
    }

    private static void faultsOfNumbers() {
        faulty("signer 12 3;", 3, 7);
        faulty("dancer 11 21;", 3, 10);
        faulty("bold 99", 3, 5);
        faulty("shy 12", 3, 4);
        faulty("man 12;", 3, 4);
        faulty("route 3 12;", 3, 8);
        faulty("fame 9 10;", 3, 7);
        faulty("fame 1 1 1 1 1 1 1 1 1 1 1 10;", 3, 27);
        faulty("route 1 2 3 4 5 12;", 3, 16);
    }

    private static void faultsOfToldTwice() {
        faulty("man 3;man 3;", 4, 6);
        faulty("man 3; man", 4, 7);
        faulty("fame;fame;", 4, 5);
        faulty("route;signer 1 1; route;", 4, 18);
        faulty("man 1;fame;route;fame", 4, 17);
    }

    private static void faultsOfTooMany() {
        String four = "signer 1 1;dancer 1 1;shy 1 1;bold 1 1;";
        faulty(four + "shy 1 1;", 5, 39);
        faulty(four + " bold", 5, 40);
        faulty(four + "boldly", 2, 39);
        faulty("fame 1 1 1 1 1 1 1 1 1 1 1 1 1;", 5, 29);
        faulty("fame 1 1 1 1 1 1 1 1 1 1 1 1 10;", 5, 29);
        faulty("fame 1 1 1 1 1 1 1 1 1 1 1 1 100;", 1, 29);
        faulty("route 1 1 1 1 1 1 1;", 5, 18);
        faulty("route 1 1 1 1 1 1 12", 5, 18);
        faulty("route 1 1 1 1 1 1 123", 1, 18);
    }

    private static void refusedTextChangesNothing() {
        GloveAbout x = Check.told("signer 2 6;bold 9 4;fame 1 2 3;route 5 11;man 1;");
        x.days(1);
        x.see(2, 1, 3);
        x.keep(1);
        x.sheet(0, 2, 5);
        String before = Check.stateOf(x);
        C.due("text()", Check.tell(x, "dancer 1 1;fame 7;route 8;man 9;shy"), -45);
        C.due("fault()", x.fault(), 2);
        C.due("count(1)", x.count(1), 1);
        String behind = Check.stateOf(x);
        C.holds("all but the fault is as it was", behind.equals(before.replaceAll("0 0$", "2 0")));
        C.due("back(1)", x.back(1), 1);
    }

    private static void ruleOfState() {
        GloveAbout x = Check.told("signer 2 6;bold 9 0;shy 4 1;fame 0 0 0 5 6;route 3 4;man 9;");
        C.due("rule(5)", x.rule(5), 2);
        C.due("rule(2)", x.rule(2), 9);
        C.due("days(1)", x.days(1), 0);
        // The man is at 3: the signer comes there and is met; the shy one goes on to 5 and is cold.
        C.due("rule(1)", x.rule(1), 1);
        C.due("rule(2)", x.rule(2), 3);
        C.due("rule(3)", x.rule(3), 0);
        C.due("rule(4)", x.rule(4), 1);
        C.due("rule(5)", x.rule(5), 6);
        C.due("rule(6)", x.rule(6), 2);
        C.due("rule(-1)", x.rule(-1), GloveAbout.BAD);
        C.due("rule(7)", x.rule(7), GloveAbout.BAD);
    }

    private static void gloveOfState() {
        GloveAbout x = Check.told("signer 2 6;bold 11 4;man 1;");
        C.due("glove(0, 4)", x.glove(0, 4), 1);
        C.due("glove(1, 4): round behind 11", x.glove(1, 4), 2);
        x.go(5);
        C.due("glove(1, 4): half the ring", x.glove(1, 4), 6);
        x.go(6);
        C.due("glove(1, 4)", x.glove(1, 4), 5);
        x.go(3);
        x.days(1);
        C.due("glove(0, 3)", x.glove(0, 3), 1);
        C.due("glove(1, 3)", x.glove(1, 3), 0);
        C.due("glove(0, 5): also if it is paired", x.glove(0, 5), 4);
        C.due("glove(0, 4)", x.glove(0, 4), 0);
        x.alter(1, 2, 0);
        x.alter(1, 1, 11);
        C.due("glove(1, 5): also if it is cold", x.glove(1, 5), 0);
        C.due("glove(2, 0)", x.glove(2, 0), GloveAbout.BAD);
        C.due("glove(-1, 0)", x.glove(-1, 0), GloveAbout.BAD);
        C.due("glove(0, -1)", x.glove(0, -1), GloveAbout.BAD);
        C.due("glove(0, 6)", x.glove(0, 6), GloveAbout.BAD);
        C.due("glove(4, 0)", x.glove(4, 0), GloveAbout.BAD);
    }

    private static void steps(int kind, int at, int man, int to) {
        GloveAbout x = Check.told("signer 0 5;");
        x.alter(0, 0, kind);
        x.alter(0, 1, at);
        x.go(man);
        C.due("step of kind " + kind + " from " + at + ", the man at " + man, x.glove(0, 5), to);
    }

    private static void stepsByKind() {
        for (int man = 0; man < 12; man++) {
            steps(0, 4, man, 5);
            steps(0, 11, man, 0);
            steps(1, 4, man, 6);
            steps(1, 10, man, 0);
            steps(1, 11, man, 1);
        }
        int[] shyFromThree = {4, 4, 4, 4, 2, 2, 2, 2, 2, 4, 4, 4};
        int[] boldFromThree = {2, 2, 2, 4, 4, 4, 4, 4, 4, 4, 2, 2};
        for (int man = 0; man < 12; man++) {
            steps(2, 3, man, shyFromThree[man]);
            steps(3, 3, man, boldFromThree[man]);
        }
        steps(2, 0, 1, 11);
        steps(2, 11, 10, 0);
        steps(3, 0, 11, 11);
        steps(3, 11, 1, 0);
    }

    private static void doorAndStop() {
        GloveAbout x = Check.told("signer 2 6;bold 9 4;shy 2 0;fame 0 0 7 0 0 0 0 0 0 0 0 4;route 5 11;");
        C.due("door(2, 0)", x.door(2, 0), 7);
        C.due("door(11, 0)", x.door(11, 0), 4);
        C.due("door(2, 1)", x.door(2, 1), 5);
        C.due("door(9, 1)", x.door(9, 1), 2);
        C.due("door(0, 1)", x.door(0, 1), 0);
        C.due("door(-1, 0)", x.door(-1, 0), GloveAbout.BAD);
        C.due("door(12, 1)", x.door(12, 1), GloveAbout.BAD);
        C.due("door(0, 2)", x.door(0, 2), GloveAbout.BAD);
        C.due("door(0, -1)", x.door(0, -1), GloveAbout.BAD);
        C.due("stop(0)", x.stop(0), 5);
        C.due("stop(1)", x.stop(1), 11);
        C.due("stop(2)", x.stop(2), GloveAbout.BAD);
        C.due("stop(-1)", x.stop(-1), GloveAbout.BAD);
        C.due("stop(6)", x.stop(6), GloveAbout.BAD);
    }
}
