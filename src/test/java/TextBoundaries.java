/** Boundary cases of THE TAPE, of its text and of what is asked of the state: promises 1 to 9 and their terms. */
final class TextBoundaries {
    private static final int BAD = GloveAbout.BAD;
    private static final int FULL = GloveAbout.FULL;
    private static final int NONE = GloveAbout.NONE;
    private static final String FOUR = "signer 1 1;dancer 1 1;shy 1 1;bold 1 1;";
    private static final String TWELVE = "fame 1 1 1 1 1 1 1 1 1 1 1 1";
    private static final String SIX = "route 1 1 1 1 1 1";
    private final Sentences s;

    private TextBoundaries(Sentences s) {
        this.s = s;
    }

    static void all(Sentences s) {
        TextBoundaries all = new TextBoundaries(s);
        all.ofTheTape();
        all.ofTheText();
        all.ofFaults();
        all.ofNewObject();
        all.ofTapeCalls();
        all.ofQuestions();
    }

    private static String blanks(int n) {
        return " ".repeat(n);
    }

    // ---- THE TAPE

    private void ofTheTape() {
        tapeHas160Bytes();
        tokensAsLongAsMayBe();
        namesOfLetters();
        numbersOfOneOrTwoFigures();
    }

    private void tapeHas160Bytes() {
        s.ofTerms("THE TAPE has 160 bytes, places from 0.");
        s.play().feeds("man 5;" + blanks(154)).due("text()", 1).due("rule(2)", 5);
        s.play().feeds(blanks(154) + "man 5;").due("text()", 1).due("rule(2)", 5);
        s.play().faulty("!" + blanks(159), 1, 0);
        s.play().faulty(blanks(159) + "!", 1, 159);
        s.play().faulty(blanks(159) + ";", 2, 159);
        s.play().faulty(blanks(158) + "ma", 2, 158);
        s.play().faulty(blanks(158) + "12", 2, 158);
        s.play().faulty(blanks(157) + "123", 1, 157);
    }

    private void tokensAsLongAsMayBe() {
        s.ofTerms("TOKENS, each as long as may be, blanks (32) between");
        s.play().feeds("man11;").due("text()", 1).due("rule(2)", 11);
        s.play().feeds("  man  11  ;  ").due("text()", 1).due("rule(2)", 11);
        s.play().faulty("man 1 1;", 2, 6);
        s.play().faulty("manman 1;", 2, 0);
        s.play().faulty("man\t1;", 1, 3).faulty("man\n1;", 1, 3).faulty("man\r1;", 1, 3);
    }

    private void namesOfLetters() {
        s.ofTerms("NAMES (a .. z), NUMBERS (1 or 2 figures), one ; .");
        for (int c = 0; c <= 127; c++) {
            boolean stands = c >= 'a' && c <= 'z' || c >= '0' && c <= '9' || c == ';';
            Play x = s.play().does("feed(" + c + ")");
            x.due("text()", c == ' ' ? 0 : -10).due("fault()", c == ' ' ? 0 : stands ? 2 : 1);
        }
    }

    private void numbersOfOneOrTwoFigures() {
        s.ofTerms("NUMBERS (1 or 2 figures)");
        s.play().feeds("man 7;").due("text()", 1).due("rule(2)", 7);
        s.play().feeds("man 07;").due("text()", 1).due("rule(2)", 7);
        s.play().feeds("man 00;").due("text()", 1).due("rule(2)", 0);
        s.play().faulty("man 007;", 1, 4).faulty("man 000;", 1, 4).faulty("man 4294967296;", 1, 4);
    }

    // ---- the text

    private void ofTheText() {
        linesFromNone();
        gloveWithinBounds();
        fameOfSomeDoors();
        routeOfSomeCalls();
        manWithinBounds();
        textTellsAll();
    }

    private void linesFromNone() {
        s.ofTerms("text: { line }");
        s.play().due("text()", 0).due("fault()", 0);
        s.play().feeds(blanks(160)).due("text()", 0).due("fault()", 0);
        s.play().feeds("signer 0 0;dancer 0 0;shy 0 0;bold 0 0;fame;route;man 0;").due("text()", 7);
    }

    private void gloveWithinBounds() {
        s.ofTerms("signer, dancer, shy, bold: a GLOVE more of that KIND: AT (0 to 11), WARM.");
        String[] kinds = {"signer", "dancer", "shy", "bold"};
        for (int kind = 0; kind < 4; kind++) {
            int place = kinds[kind].length() + 1;
            s.play().feeds(kinds[kind] + " 0 0;").due("text()", 1).due("glove(0, 0)", kind)
                .due("glove(0, 1)", 0).due("glove(0, 2)", 0);
            s.play().feeds(kinds[kind] + " 11 20;").due("text()", 1).due("glove(0, 0)", kind)
                .due("glove(0, 1)", 11).due("glove(0, 2)", 20);
            s.play().faulty(kinds[kind] + " 12 20;", 3, place).faulty(kinds[kind] + " 99 20;", 3, place)
                .faulty(kinds[kind] + " 0 21;", 3, place + 2).faulty(kinds[kind] + " 0 99;", 3, place + 2);
        }
    }

    private void fameOfSomeDoors() {
        s.ofTerms("fame: FAME of DOOR 0, 1, and so on (the others have 0).");
        Play x = s.play("fame 9 9 9 9 9 9 9 9 9 9 9 9;").due("count(5)", 108).due("door(11, 0)", 9);
        x.told("fame 7 0 9;").due("door(0, 0)", 7).due("door(1, 0)", 0).due("door(2, 0)", 9).due("count(5)", 16);
        x.told("fame;").due("count(5)", 0);
        x.told("fame 1 2 3 4 5 6 7 8 9 0 1;").due("door(10, 0)", 1).due("door(11, 0)", 0);
        x.faulty("fame 10;", 3, 5).faulty("fame 1 1 1 1 1 1 1 1 1 1 1 10;", 3, 27);
    }

    private void routeOfSomeCalls() {
        s.ofTerms("route: THE ROUTE: DOORS.");
        Play x = s.play("route 0 11 1 2 3 4;").due("rule(6)", 6).due("stop(1)", 11).due("stop(5)", 4);
        x.told("route;").due("rule(6)", 0).due("stop(0)", BAD);
        x.faulty("route 12;", 3, 6).faulty("route 0 0 0 0 0 12;", 3, 16);
    }

    private void manWithinBounds() {
        s.ofTerms("man: AT which DOOR THE MAN is.");
        s.play("man 11;").due("rule(2)", 11).told("man 0;").due("rule(2)", 0).faulty("man 12;", 3, 4);
        s.play("man 11;").told("fame;").due("rule(2)", 0);
    }

    private void textTellsAll() {
        s.ofTerms("A text that is taken tells all, in place of what there was; nothing is SEEN; IMAGES are gone.");
        String[] texts = {"", " ", "shy 4 4;", "route;man 0;"};
        for (String text : texts) {
            Play x = s.play("signer 2 6;bold 9 4;fame 1 1 1 1;route 3 5;man 1;");
            x.does("see(1, 0, 3)", "keep(0)", "days(2)", "keep(1)", "sheet(0, 1, 3)").due("rule(4)", 1);
            x.does("runs(60, 0)").due("runs(60, 1)", 1);
            x.told(text).due("rule(0)", text.startsWith("shy") ? 1 : 0);
            x.all(0, "rule(1)", "rule(2)", "rule(3)", "rule(4)", "rule(5)", "rule(6)", "count(0)", "count(1)",
                "count(5)");
            x.all(GloveAbout.STATE, "back(0)", "back(1)").due("count(3)", 3);
        }
    }

    // ---- FAULTS

    private void ofFaults() {
        firstMet();
        noToken();
        canNotStandThere();
        outOfBounds();
        forTheSecondTime();
        oneTooMany();
    }

    private void firstMet() {
        s.ofTerms("FAULTS, the first met as it is read (a TOKEN is read when the one before has been taken)");
        s.play().faulty("signer 12 21;", 3, 7).faulty("signer 12 !", 3, 7).faulty("signer 1 !", 1, 9);
        s.play().faulty("man 3 !", 1, 6).faulty("man 3 123", 1, 6).faulty("man 12 123", 3, 4).faulty("men !", 2, 0);
        s.play().faulty("man 1;man !", 4, 6).faulty("fame 10 123;", 3, 5).faulty("fame 1;man x 12", 2, 11);
        s.play().faulty(FOUR + "shy !", 5, 39).faulty(SIX + " 12 !", 5, 18);
    }

    private void noToken() {
        s.ofTerms("1 no TOKEN, a NUMBER that is too long (its first byte).");
        s.play().faulty("MAN 1;", 1, 0).faulty("man -1;", 1, 4).faulty("man 1,", 1, 5).faulty("man 1;.", 1, 6);
        s.play().faulty("fame 100;", 1, 5).faulty("signer 011 1;", 1, 7).faulty("signer 11 001;", 1, 10);
        s.play().faulty("123", 1, 0).faulty("route 1 100", 1, 8).faulty("man 1 100", 1, 6);
    }

    private void canNotStandThere() {
        s.ofTerms("2 a TOKEN that can not stand there (a NAME that begins no line; or the end: the length).");
        s.play().faulty("x", 2, 0).faulty("ma 1;", 2, 0).faulty("mans 1;", 2, 0).faulty("man 1;a", 2, 6);
        s.play().faulty("can 1;", 2, 0).faulty("hold 1 1;", 2, 0).faulty("maz 1;", 2, 0).faulty("boldshy 1 1;", 2, 0);
        s.play().faulty("7;", 2, 0).faulty(";", 2, 0).faulty("man 1;;", 2, 6).faulty("man 1;1", 2, 6);
        s.play().faulty("man", 2, 3).faulty("man 1", 2, 5).faulty("man  ", 2, 5).faulty("man 1  ", 2, 7);
        s.play().faulty("signer", 2, 6).faulty("signer 1", 2, 8).faulty("signer 1 1", 2, 10);
        s.play().faulty("fame", 2, 4).faulty("fame 1", 2, 6).faulty("route", 2, 5).faulty("route 1 ", 2, 8);
        s.play().faulty("man;", 2, 3).faulty("signer 1;", 2, 8).faulty("signer 1 1 1;", 2, 11).faulty("man man", 2, 4);
        s.play().faulty("man 5" + blanks(155), 2, 160);
        s.play().faulty(blanks(157) + "man", 2, 160);
    }

    private void outOfBounds() {
        s.ofTerms("3 a NUMBER out of its bounds.");
        s.play().faulty("signer 12 1;", 3, 7).faulty("signer 11 21;", 3, 10).faulty("man 12;", 3, 4);
        s.play().faulty("fame 9 10;", 3, 7).faulty("route 11 12;", 3, 9).faulty("man 99", 3, 4);
    }

    private void forTheSecondTime() {
        s.ofTerms("4 fame, route, man for the second time (its NAME).");
        s.play().faulty("fame;fame;", 4, 5).faulty("route;route;", 4, 6).faulty("man 1;man 1;", 4, 6);
        s.play().faulty("fame; shy 1 1; fame", 4, 15).faulty("man 1;fame;route;man", 4, 17);
        s.play("fame;").feeds("fame;").due("text()", 1);
    }

    private void oneTooMany() {
        s.ofTerms("5 the 5th GLOVE (its NAME); a 13th FAME, a 7th CALL (its NUMBER, whether it is one or not).");
        s.play().feeds(FOUR).due("text()", 4).faulty(FOUR + "shy 1 1;", 5, 39).faulty(FOUR + " bold", 5, 40);
        s.play().faulty(FOUR + "shyly", 2, 39).faulty(FOUR + "shy1 1;", 5, 39);
        s.play().feeds(TWELVE + ";").due("text()", 1).faulty(TWELVE + " 1;", 5, 29).faulty(TWELVE + " 10;", 5, 29);
        s.play().faulty(TWELVE + " 99", 5, 29).faulty(TWELVE + " 100", 1, 29).faulty(TWELVE + " x", 2, 29);
        s.play().faulty(TWELVE, 2, 28).faulty(TWELVE + " 0", 5, 29);
        s.play().feeds(SIX + ";").due("text()", 1).faulty(SIX + " 1;", 5, 18).faulty(SIX + " 12;", 5, 18);
        s.play().faulty(SIX + " 99", 5, 18).faulty(SIX + " 100", 1, 18).faulty(SIX + " x", 2, 18).faulty(SIX, 2, 17);
    }

    // ---- a new object

    private void ofNewObject() {
        s.ofPromise(1, "No GLOVES; SHEETS of nothing.");
        Play x = s.play().due("rule(0)", 0);
        x.all(BAD, "glove(0, 0)", "glove(0, 5)", "alter(0, 0, 0)", "leave(0)", "ahead(0, 0, 0)", "meets(0)",
            "need(0, 0)");
        x.all(BAD, "kind(0, 0, 0)", "drop(0, 0, 0)", "luck(0, 0, 0, 0)", "see(0, 0, 0)", "kinds(0)", "doors(0)",
            "ask(0, 0)");
        x.due("count(3)", NONE);
        for (int k = 0; k < 4; k++) {
            x.due("lay(" + k + ", 0, 0)", -11);
            for (int lane = 0; lane < 3; lane++) {
                x.due("read(" + k + ", " + lane + ", 0, 1)", 0).due("torn()", 1);
            }
        }
        x.all(0, "rule(4)", "rule(5)", "door(0, 1)", "count(4)", "runs(60, 0)", "runs(60, 1)", "runs(60, 2)",
            "days(30)");
        x.all(0, "extra(60, 0)", "extra(60, 1)", "mean(5, 8, 0)", "drift(1, 60, 0)", "drift(1, 60, 1)");
        x.all(NONE, "runs(60, 4)", "swap(60, 0)", "shun(60, 1)").due("mean(5, 8, 1)", 1);
    }

    // ---- feed, end, text, fault

    private void ofTapeCalls() {
        feedOfBytes();
        feedOfOneMore();
        endOfBytes();
        textEmptiesTheTape();
        textOfPlaces();
        textRefusedLeavesAll();
        faultOfTheLatest();
    }

    private void feedOfBytes() {
        s.ofPromise(2, "A byte (0 to 127) comes behind THE TAPE: how many it has. BAD;");
        s.play().due("feed(0)", 1).due("feed(127)", 2).refused(BAD, "feed(-1)", "feed(128)", "feed(MIN)", "feed(MAX)")
            .refused(BAD, "feed(256)", "feed(-128)").due("count(2)", 2);
    }

    private void feedOfOneMore() {
        s.ofPromise(2, "FULL: more than 160.");
        Play x = s.play();
        for (int n = 1; n <= 160; n++) {
            x.due("feed(32)", n);
        }
        x.refused(FULL, "feed(32)", "feed(0)", "feed(127)").refused(BAD, "feed(128)", "feed(-1)");
        x.due("end(159)", 160).due("feed(32)", 160).due("feed(32)", FULL).due("text()", 0).due("feed(32)", 1);
    }

    private void endOfBytes() {
        s.ofPromise(3, "THE TAPE keeps its first n bytes: how many it had. BAD.");
        s.play().due("end(0)", 0).refused(BAD, "end(1)", "end(-1)", "end(MIN)", "end(MAX)");
        Play x = s.play().feeds("man 12").refused(BAD, "end(7)", "end(160)", "end(161)", "end(-1)");
        x.due("end(6)", 6).due("end(5)", 6).refused(BAD, "end(6)").feeds(";").due("text()", 1).due("rule(2)", 1);
        x.feeds("man 3;").due("end(0)", 6).due("count(2)", 0).due("end(0)", 0).due("text()", 0).due("rule(2)", 0);
    }

    private void textEmptiesTheTape() {
        s.ofPromise(4, "THE TAPE (empty then) tells all: how many lines;");
        s.play().feeds("man 1;").due("text()", 1).due("count(2)", 0).due("feed(32)", 1);
        s.play().feeds("man 12;").due("text()", -14).due("count(2)", 0).due("feed(32)", 1);
        s.play().due("text()", 0).due("count(2)", 0).due("text()", 0);
    }

    private void textOfPlaces() {
        s.ofPromise(4, "-10 less the place of its FAULT");
        s.play().feeds("!").due("text()", -10).feeds(" !").due("text()", -11);
        s.play().feeds(blanks(159) + "!").due("text()", -169);
        s.play().feeds(blanks(157) + "man").due("text()", -170);
    }

    private void textRefusedLeavesAll() {
        s.ofPromise(4, "that which was told stays.");
        String[] texts = {"dancer 1 1;fame 7;route 8;man 9;shy", "man 9;man 9;", "!", FOUR + "shy"};
        for (String text : texts) {
            Play x = s.play("signer 2 6;bold 9 4;fame 1 2 3;route 5 11;man 1;")
                .does("days(1)", "see(2, 1, 3)", "keep(1)");
            x.feeds(text);
            Play refused = x.again();
            s.holds("text() of '" + text + "' is refused", refused.ask("text()") <= -10);
            Play ended = x.again().does("end(0)");
            s.holds("all but the fault is as it was", exceptFault(refused.probe()).equals(exceptFault(ended.probe())));
        }
    }

    private static String exceptFault(String probe) {
        return probe.replaceAll("fault\\(\\) \\d\n", "");
    }

    private void faultOfTheLatest() {
        s.ofPromise(5, "The FAULT of the latest text(); 0.");
        s.play().due("fault()", 0);
        Play x = s.play().faulty("!", 1, 0).faulty("x", 2, 0).faulty("man 12;", 3, 4).faulty("fame;fame", 4, 5);
        x.faulty(SIX + " 1", 5, 18).due("fault()", 5).does("feed(33)", "end(0)", "days(1)").due("fault()", 5);
        x.due("text()", 0).due("fault()", 0);
    }

    // ---- rule, glove, door, stop

    private void ofQuestions() {
        ruleOfWhat();
        ruleAtItsEnds();
        gloveOfWhat();
        gloveStepsAlso();
        doorOfWhat();
        stopOfCalls();
    }

    private void ruleOfWhat() {
        s.ofPromise(6, "6 CALLS. BAD.");
        s.play().refused(BAD, "rule(-1)", "rule(7)", "rule(MIN)", "rule(MAX)").due("rule(0)", 0).due("rule(6)", 0);
    }

    private void ruleAtItsEnds() {
        s.ofPromise(6, "4 which are PAIRED (bits), 5 which are COLD (bits)");
        Play x = s.play("signer 2 0;signer 2 0;signer 2 0;signer 2 0;route 3 3 3 3 3 3;");
        x.due("rule(0)", 4).due("rule(4)", 0).due("rule(5)", 15).due("rule(6)", 6).due("rule(1)", 0);
        x.does("alter(0, 2, 1)", "alter(3, 2, 1)").due("rule(5)", 6).does("days(1)").due("rule(4)", 9)
            .due("rule(5)", 6);
        x.does("alter(1, 2, 1)", "alter(2, 2, 1)", "days(1)").due("rule(4)", 15).due("rule(5)", 0);
    }

    private void gloveOfWhat() {
        s.ofPromise(7, "BAD.");
        Play x = s.play("signer 2 6;bold 11 4;man 1;");
        x.refused(BAD, "glove(-1, 0)", "glove(2, 0)", "glove(3, 0)", "glove(4, 0)", "glove(MIN, 0)", "glove(MAX, 0)");
        x.refused(BAD, "glove(0, -1)", "glove(0, 6)", "glove(1, MIN)", "glove(1, MAX)", "glove(2, 6)");
        x.due("glove(1, 0)", 3).due("glove(1, 5)", 0);
        s.play(FOUR).due("glove(3, 0)", 3).due("glove(4, 0)", BAD);
    }

    private void gloveStepsAlso() {
        s.ofPromise(7, "(as THE MAN is now; also if it is PAIRED, or COLD)");
        Play x = s.play("signer 10 6;bold 11 0;man 11;");
        x.due("glove(1, 5)", 0).does("days(1)").due("glove(0, 3)", 1).due("glove(0, 5)", 0);
        x.does("go(9)").due("glove(0, 5)", 10).due("glove(1, 5)", 10).does("go(1)").due("glove(1, 5)", 0);
    }

    private void doorOfWhat() {
        s.ofPromise(8, "BAD.");
        Play x = s.play("signer 0 6;bold 0 4;shy 11 1;dancer 11 0;fame 9 0 0 0 0 0 0 0 0 0 0 8;");
        x.refused(BAD, "door(-1, 0)", "door(12, 0)", "door(MIN, 1)", "door(MAX, 1)", "door(0, -1)", "door(0, 2)");
        x.refused(BAD, "door(11, MIN)", "door(11, MAX)", "door(12, 2)");
        x.due("door(0, 0)", 9).due("door(11, 0)", 8).due("door(0, 1)", 3).due("door(11, 1)", 12).due("door(5, 1)", 0);
        s.play("signer 4 1;shy 4 2;shy 4 3;bold 4 0;").due("door(4, 1)", 15);
    }

    private void stopOfCalls() {
        s.ofPromise(9, "The DOOR of a CALL. BAD.");
        s.play().refused(BAD, "stop(0)", "stop(-1)");
        Play x = s.play("route 11 0 5;").refused(BAD, "stop(-1)", "stop(3)", "stop(6)", "stop(MIN)", "stop(MAX)");
        x.due("stop(0)", 11).due("stop(1)", 0).due("stop(2)", 5).does("cut(2)").due("stop(2)", BAD);
        s.play(SIX + ";").due("stop(5)", 1).due("stop(6)", BAD);
    }
}
