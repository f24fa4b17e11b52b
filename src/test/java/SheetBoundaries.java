/** Boundary cases of images, sheets and counts: promises 35 to 41 and their terms. */
final class SheetBoundaries {
    private static final int BAD = GloveAbout.BAD;
    private static final int STATE = GloveAbout.STATE;
    private static final int NONE = GloveAbout.NONE;
    private final Sentences s;

    private SheetBoundaries(Sentences s) {
        this.s = s;
    }

    static void all(Sentences s) {
        SheetBoundaries all = new SheetBoundaries(s);
        all.ofImages();
        all.ofSheets();
        all.ofReads();
        all.ofCounts();
    }

    // ---- images

    private void ofImages() {
        keepWithinBounds();
        backOfNone();
        backAtTheEnds();
    }

    private void keepWithinBounds() {
        s.ofPromise(35,
            "IMAGE k (0, 1) is DOORS, GLOVES, THE MAN, THE ROUTE, NAME, DAY, what was SEEN: whether there was one "
            + "(1, 0). BAD.");
        Play x = s.play("signer 2 6;").refused(BAD, "keep(-1)", "keep(2)", "keep(MIN)", "keep(MAX)").due("count(1)", 0);
        x.due("keep(1)", 0).due("count(1)", 1).due("keep(1)", 1).due("keep(0)", 0).due("keep(0)", 1).due("count(1)", 2);
        x.refused(BAD, "keep(-1)", "keep(2)").told("").due("keep(0)", 0).due("keep(1)", 0);
    }

    private void backOfNone() {
        s.ofPromise(36, "All is as IMAGE k: DAY. BAD; STATE: there is none.");
        Play x = s.play("signer 2 6;").refused(STATE, "back(0)", "back(1)").does("days(2)", "keep(1)", "days(3)");
        x.refused(BAD, "back(-1)", "back(2)", "back(MIN)", "back(MAX)").refused(STATE, "back(0)");
        x.due("back(1)", 2).due("back(1)", 2).due("glove(0, 1)", 4).told("man 1;").refused(STATE, "back(0)", "back(1)");
    }

    private void backAtTheEnds() {
        s.ofPromise(36, "All is as IMAGE k: DAY.");
        // An IMAGE of nothing, and one on the last DAY there is.
        Play x = s.play().does("keep(0)", "call(3)", "fame(0, 9)", "go(5)", "days(1)").due("back(0)", 0);
        x.all(0, "rule(1)", "rule(2)", "rule(6)", "count(5)");
        Play last = DayBoundaries.onTheLastDay(s, "signer 2 0;route 1 2 3 4 5 6;").does("see(0, 0, 2)", "keep(1)");
        last.does("cut(0)", "forget(0)", "alter(0, 2, 20)").due("back(1)", 999).due("rule(1)", 999).due("rule(6)", 6);
        last.due("days(1)", GloveAbout.FULL).due("count(0)", 1).due("rule(5)", 1);
        Play seen = s.play("signer 2 9;signer 5 0;man 9;").does("see(1, 0, 3)", "see(20, 1, 5)", "keep(1)");
        seen.does("forget(0)", "see(0, 1, 3)", "see(0, 0, 5)").due("doors(0)", 0).due("back(1)", 0).due("doors(0)", 4);
        seen.due("doors(1)", 32);
        // All six of ROUTE and SEEN are kept, and all twelve FAMES.
        Play full = s.play("signer 0 20;fame 1 2 3 4 5 6 7 8 9 8 7 6;route 0 1 2 3 4 5;");
        for (int i = 0; i < 6; i++) {
            full.does("see(0, 0, 0)");
        }
        full.does("keep(0)", "cut(0)", "forget(0)", "fame(11, 0)", "call(11)", "see(0, 0, 11)").due("back(0)", 0);
        full.due("rule(6)", 6).due("stop(0)", 0).due("stop(5)", 5).due("count(0)", 6).due("count(5)", 66)
            .due("doors(0)", 1);
    }

    // ---- sheet, lay

    private void ofSheets() {
        rowsOfAllLanes();
        faultsOfTheMachine();
        sheetWithinBounds();
        layWithinBounds();
        layOfLowestBits();
    }

    private void rowsOfAllLanes() {
        s.ofTerms("SHEETS 0 to 3 are rows of BYTES (lane 0), SHORTS (1), INTS (2) with 0 to 40 CELLS, or "
            + "nothing (at first).");
        for (int k = 0; k < 4; k++) {
            Play x = s.play().refused(-11, "lay(" + k + ", 0, 0)");
            for (int lane = 0; lane < 3; lane++) {
                String sheet = "sheet(" + k + ", " + lane + ", ";
                x.due(sheet + "0)", 1).due("lay(" + k + ", 0, 0)", -12).due(sheet + "40)", 1);
                x.due("lay(" + k + ", 39, 1)", 1).due("lay(" + k + ", 40, 1)", -12).due(sheet + "41)", BAD);
                x.due("read(" + k + ", " + lane + ", 39, 1)", 0).due("torn()", 2);
            }
        }
        s.play().all(BAD, "sheet(4, 0, 1)", "sheet(-1, 0, 1)", "sheet(0, 3, 1)", "sheet(0, -1, 1)");
    }

    private void faultsOfTheMachine() {
        s.ofTerms("A FAULT is what the machine finds: 1 NULL (nothing), 2 INDEX, 3 CAST (another lane), 4 SIZE "
            + "(below 0).");
        Play x = s.play("signer 2 6;").does("sheet(1, 1, 2)");
        x.due("lay(0, 0, 0)", -11).due("read(0, 2, 0, 1)", 0).due("torn()", 1);
        x.due("lay(1, 2, 0)", -12).due("read(1, 1, 2, 1)", 0).due("torn()", 2);
        x.due("read(1, 0, 0, 1)", 0).due("torn()", 3).due("read(1, 2, 0, 1)", 0).due("torn()", 3);
        x.due("sheet(1, 1, -1)", -14).due("torn()", 3);
        // Nothing is of no lane, so NULL is met; another lane is met ahead of an index.
        x.due("read(0, 0, -1, 1)", 0).due("torn()", 1).due("read(1, 0, -1, 1)", 0).due("torn()", 3);
        x.due("lay(0, -1, 0)", -11);
    }

    private void sheetWithinBounds() {
        s.ofPromise(37, "A SHEET is a new row of CELLS 0: 1. BAD: also n above 40; -10 - 4.");
        Play x = s.play("signer 2 6;signer 3 6;").does("sheet(0, 0, 2)", "lay(0, 0, 1)", "lay(0, 1, 9)");
        x.refused(BAD, "sheet(-1, 0, 1)", "sheet(4, 0, 1)", "sheet(MIN, 0, 1)", "sheet(MAX, 0, 1)", "sheet(4, 0, -1)");
        x.refused(BAD, "sheet(0, -1, 1)", "sheet(0, 3, 1)", "sheet(0, MIN, 1)", "sheet(0, MAX, 1)", "sheet(0, 3, -1)");
        x.refused(BAD, "sheet(0, 0, 41)", "sheet(0, 0, MAX)", "sheet(4, 3, 41)")
            .refused(-14, "sheet(0, 0, -1)", "sheet(0, 1, MIN)");
        x.due("read(0, 0, 0, 1)", 1).due("glove(1, 1)", 9).due("sheet(0, 0, 2)", 1).due("read(0, 0, 0, 1)", 1);
        x.due("glove(0, 1)", 0).due("sheet(0, 2, 0)", 1).due("count(3)", 0).due("sheet(0, 2, 40)", 1)
            .due("count(3)", 40);
    }

    private void layWithinBounds() {
        s.ofPromise(38, "1. BAD: k; -10 less the FAULT: NULL, INDEX.");
        Play x = s.play("signer 2 6;signer 3 6;").does("sheet(1, 0, 2)", "sheet(2, 1, 0)", "sheet(3, 2, 40)");
        x.refused(BAD, "lay(-1, 0, 0)", "lay(4, 0, 0)", "lay(MIN, 0, 0)", "lay(MAX, 0, 0)", "lay(4, -1, 0)");
        x.refused(-11, "lay(0, 0, 1)", "lay(0, -1, 1)", "lay(0, 40, 1)", "lay(0, MAX, 1)");
        x.refused(-12, "lay(1, -1, 1)", "lay(1, 2, 1)", "lay(1, MIN, 1)", "lay(1, MAX, 1)", "lay(2, 0, 1)",
            "lay(3, 40, 1)");
        x.due("lay(1, 0, 1)", 1).due("lay(1, 1, 11)", 1).due("lay(3, 39, 0)", 1).due("read(1, 0, 0, 1)", 1)
            .due("glove(1, 1)", 11);
    }

    private void layOfLowestBits() {
        s.ofPromise(38, "CELL i of a SHEET becomes v (its lowest bits)");
        String[][] zero = {{"0", "256", "-256", "65536", "MIN"}, {"0", "65536", "-65536", "131072", "MIN"}, {"0"}};
        String[][] below = {{"128", "255", "-1", "MAX", "-128"}, {"32768", "65535", "-1", "MAX"}, {"-1", "MIN"}};
        String[][] above = {{"127", "268", "12"}, {"256", "32767", "12"}, {"256", "65536", "MAX", "12"}};
        for (int lane = 0; lane < 3; lane++) {
            Play x = s.play("signer 2 6;").does("sheet(0, " + lane + ", 2)");
            for (String v : zero[lane]) {
                x.does("alter(0, 1, 5)").due("lay(0, 1, " + v + ")", 1).due(readOf(lane), 1).due("glove(0, 1)", 0);
            }
            for (String[] out : new String[][] {below[lane], above[lane]}) {
                for (String v : out) {
                    x.due("lay(0, 1, " + v + ")", 1).due(readOf(lane), -20);
                }
            }
            x.due("lay(0, 1, 11)", 1).due(readOf(lane), 1).due("glove(0, 1)", 11);
        }
    }

    private static String readOf(int lane) {
        return "read(0, " + lane + ", 0, 1)";
    }

    // ---- read, torn

    private void ofReads() {
        readOfNoneAndTwenty();
        readFromCell();
        readTorn();
        readWithinBounds();
        readRefused();
        readOfTheFirstMet();
        tornOfTheLatest();
    }

    /** A run with SHEET 2 of these CELLS. */
    private Play sheetOf(String text, int lane, int... cells) {
        Play x = s.play(text).does("sheet(2, " + lane + ", " + cells.length + ")");
        for (int i = 0; i < cells.length; i++) {
            x.does("lay(2, " + i + ", " + cells[i] + ")");
        }
        return x;
    }

    private void readOfNoneAndTwenty() {
        s.ofPromise(39,
            "n (0 to 20) times a GLOVE, AT which DOOR it is are read of a SHEET taken as of a lane, two CELLS each "
            + "from CELL f on, one behind another as by alter(): how many came.");
        Play x = s.play("signer 2 6;").does("sheet(0, 0, 40)", "lay(0, 39, 11)", "lay(0, 37, 7)");
        x.due("read(0, 0, 0, 0)", 0).due("glove(0, 1)", 2).due("read(0, 0, 0, 19)", 19).due("glove(0, 1)", 7);
        x.due("read(0, 0, 0, 20)", 20).due("glove(0, 1)", 11).due("torn()", 0).refused(BAD, "read(0, 0, 0, 21)");
        x.due("read(0, 0, 38, 1)", 1).due("read(0, 0, 40, 0)", 0).due("torn()", 0);
        // Of 0 times nothing is taken as of a lane, and no CELL is asked.
        x.due("read(0, 1, 0, 0)", 0).due("torn()", 0).due("read(1, 0, -1, 0)", 0).due("torn()", 0);
        x.due("read(0, 0, MAX, 0)", 0).due("torn()", 0);
    }

    private void readFromCell() {
        s.ofPromise(39, "two CELLS each from CELL f on");
        Play x = sheetOf("signer 2 6;signer 3 6;", 1, 0, 1, 4, 0);
        x.due("read(2, 1, 1, 1)", 1).due("glove(1, 1)", 4).due("torn()", 0).due("read(2, 1, 2, 1)", -20);
        String[] outside = {"-1", "3", "4", "5", "MIN", "MAX", "2147483646", "-2"};
        for (String f : outside) {
            x.due("read(2, 1, 1, 1)", 1).due("torn()", 0).due("read(2, 1, " + f + ", 1)", 0).due("torn()", 2);
            x.due("read(2, 1, " + f + ", 20)", 0).due("torn()", 2).due("glove(1, 1)", 4).due("glove(0, 1)", 2);
        }
    }

    private void readTorn() {
        s.ofPromise(39, "What the machine refuses: those that were whole ahead came (its FAULT is asked by torn()).");
        Play odd = sheetOf("signer 2 6;signer 3 6;", 2, 0, 4, 1, 11, 0);
        odd.due("read(2, 2, 0, 3)", 2).due("torn()", 2).due("glove(0, 1)", 4).due("glove(1, 1)", 11);
        odd.due("read(2, 2, 0, 20)", 2).due("read(2, 2, 0, 2)", 2).due("torn()", 0);
        Play even = sheetOf("signer 2 6;signer 3 6;", 0, 0, 4, 1, 11);
        even.due("read(2, 0, 0, 3)", 2).due("torn()", 2).due("glove(1, 1)", 11).due("read(2, 0, 2, 2)", 1)
            .due("torn()", 2);
        Play empty = sheetOf("signer 2 6;", 0).due("read(2, 0, 0, 1)", 0).due("torn()", 2).due("glove(0, 1)", 2);
        empty.due("read(2, 0, 0, 20)", 0).due("read(0, 0, 0, 20)", 0).due("torn()", 1);
        empty.due("read(2, 1, 0, 20)", 0).due("torn()", 3).due("glove(0, 1)", 2);
        s.play("signer 2 6;").does("sheet(3, 2, 40)").due("read(3, 2, 1, 20)", 19).due("torn()", 2)
            .due("glove(0, 1)", 0);
    }

    private void readWithinBounds() {
        s.ofPromise(39, "BAD: k, lane, n;");
        Play x = sheetOf("signer 2 6;", 0, 0, 5).does("read(2, 0, 0, 2)").due("torn()", 2);
        x.refused(BAD, "read(-1, 0, 0, 1)", "read(4, 0, 0, 1)", "read(MIN, 0, 0, 1)", "read(MAX, 0, 0, 1)");
        x.refused(BAD, "read(2, -1, 0, 1)", "read(2, 3, 0, 1)", "read(2, MIN, 0, 1)", "read(2, MAX, 0, 1)");
        x.refused(BAD, "read(2, 0, 0, -1)", "read(2, 0, 0, 21)", "read(2, 0, 0, MIN)", "read(2, 0, 0, MAX)");
        x.refused(BAD, "read(4, 0, 0, 0)", "read(2, 3, 0, 0)", "read(0, 3, -1, 1)", "read(0, 0, -1, 21)")
            .due("torn()", 2);
    }

    private void readRefused() {
        s.ofPromise(39, "-20 less i: the i-th, whole, is refused by alter() (in whichever way): then none came;");
        String two = "signer 2 6;signer 3 6;";
        int[][] wrong = {{2, 5}, {-1, 5}, {4, 5}, {127, 5}, {1, 12}, {1, -1}, {-128, 5}, {1, 127}};
        for (int[] pair : wrong) {
            sheetOf(two, 0, pair[0], pair[1]).refused(-20, "read(2, 0, 0, 1)", "read(2, 0, 0, 20)");
            sheetOf(two, 0, 0, 5, pair[0], pair[1]).refused(-21, "read(2, 0, 0, 2)").due("glove(0, 1)", 2);
        }
        sheetOf(two + "man 3;", 0, 1, 7, 0, 3).does("days(1)").due("rule(4)", 1).refused(-21, "read(2, 0, 0, 2)")
            .refused(-20, "read(2, 0, 2, 1)").due("glove(1, 1)", 4).does("leave(0)").due("read(2, 0, 0, 2)", 2);
        Play last = s.play("signer 2 6;").does("sheet(2, 1, 40)", "lay(2, 38, 1)").refused(-39, "read(2, 1, 0, 20)");
        last.due("glove(0, 1)", 2).due("read(2, 1, 0, 19)", 19).due("glove(0, 1)", 0);
        sheetOf("", 0, 0, 0).refused(-20, "read(2, 0, 0, 1)");
        int[] extremes = {Integer.MIN_VALUE, Integer.MAX_VALUE};
        for (int v : extremes) {
            sheetOf(two, 2, v, 0).refused(-20, "read(2, 2, 0, 1)");
            sheetOf(two, 2, 0, v).refused(-20, "read(2, 2, 0, 1)");
        }
    }

    private void readOfTheFirstMet() {
        s.ofPromise(39, "then none came; the first met.");
        Play x = sheetOf("signer 2 6;", 0, 0, 4, 0, 12, 9, 0, 9).refused(-21, "read(2, 0, 0, 4)").due("torn()", 0);
        x.does("lay(2, 3, 5)").refused(-22, "read(2, 0, 0, 4)").does("lay(2, 4, 0)").due("read(2, 0, 0, 4)", 3);
        // The last one is not whole: whatever its GLOVE is, the machine is the first to refuse it.
        x.due("torn()", 2).due("glove(0, 1)", 0).refused(-20, "read(2, 0, 3, 2)");
    }

    private void tornOfTheLatest() {
        s.ofPromise(40, "The FAULT of the latest read() that came to an end; 0.");
        s.play().due("torn()", 0);
        Play x = sheetOf("signer 2 6;", 0, 0, 5, 9).due("read(2, 0, 0, 2)", 1).due("torn()", 2);
        x.due("read(2, 0, 0, 21)", BAD).due("torn()", 2).due("read(2, 0, 1, 1)", -20).due("torn()", 2);
        x.due("lay(0, 0, 0)", -11).due("sheet(0, 0, -1)", -14).due("torn()", 2);
        x.due("read(2, 1, 0, 1)", 0).due("torn()", 3).due("read(0, 1, 0, 1)", 0).due("torn()", 1);
        x.due("read(2, 0, 0, 1)", 1).due("torn()", 0).due("read(1, 0, 0, 1)", 0).due("torn()", 1);
        x.due("read(1, 0, 0, 0)", 0).due("torn()", 0);
    }

    // ---- count

    private void ofCounts() {
        countAtItsEnds();
        countWithinBounds();
    }

    private void countAtItsEnds() {
        s.ofPromise(41,
            "How many: 0 SEEN, 1 IMAGES, 2 bytes on THE TAPE, 3 CELLS of SHEET 0 (NONE: nothing), 4 WARM of all, "
            + "5 FAME of all DOORS.");
        Play x = s.play().all(0, "count(0)", "count(1)", "count(2)", "count(4)", "count(5)").due("count(3)", NONE);
        x.does("sheet(1, 0, 5)").refused(NONE, "count(3)").does("sheet(0, 0, 0)").due("count(3)", 0);
        x.does("sheet(0, 0, 40)").due("count(3)", 40);
        x.told("signer 0 20;signer 0 20;signer 0 20;signer 0 20;fame 9 9 9 9 9 9 9 9 9 9 9 9;");
        x.due("count(4)", 80).due("count(5)", 108).told("bold 1 3;").due("count(4)", 3).due("count(5)", 0);
        Play paired = s.play("signer 2 6;signer 5 0;man 3;").does("days(2)").due("count(4)", 7);
        paired.does("see(0, 0, 0)", "keep(0)", "keep(1)", "feed(32)").due("count(0)", 1).due("count(1)", 2)
            .due("count(2)", 1);
    }

    private void countWithinBounds() {
        s.ofPromise(41, "BAD.");
        s.play("signer 2 6;").refused(BAD, "count(-1)", "count(6)", "count(MIN)", "count(MAX)");
    }
}
