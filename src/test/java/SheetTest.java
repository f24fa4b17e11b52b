/** Promises 37 to 41: sheets, the faults that the machine finds, and counts. */
public final class SheetTest {
    private static final int BAD = GloveAbout.BAD;
    private static final Check C = new Check("SheetTest");

    public static void main(String[] args) {
        sheet();
        lay();
        lowestBits();
        read();
        readRefused();
        readTorn();
        readOfNothing();
        theFirstMet();
        count();
        C.finish();
    }

    private static void sheet() {
        GloveAbout x = new GloveAbout();
        int[][] wrong = {{-1, 0, 1}, {4, 0, 1}, {0, -1, 1}, {0, 3, 1}, {0, 0, 41}, {4, 0, -1}, {0, 3, -1},
            {0, 0, Integer.MAX_VALUE}};
        for (int[] w : wrong) {
            C.due("sheet(" + w[0] + ", " + w[1] + ", " + w[2] + ")", x.sheet(w[0], w[1], w[2]), BAD);
        }
        C.due("sheet(0, 0, -1)", x.sheet(0, 0, -1), -14);
        C.due("count(3)", x.count(3), GloveAbout.NONE);
        C.due("sheet(0, 0, 0)", x.sheet(0, 0, 0), 1);
        C.due("count(3)", x.count(3), 0);
        C.due("sheet(0, 2, 40)", x.sheet(0, 2, 40), 1);
        C.due("count(3)", x.count(3), 40);
        C.due("sheet(0, 1, MIN)", x.sheet(0, 1, Integer.MIN_VALUE), -14);
        C.due("count(3): it stays", x.count(3), 40);
        C.due("sheet(3, 1, 7)", x.sheet(3, 1, 7), 1);
        C.due("lay(3, 6, 1)", x.lay(3, 6, 1), 1);
        C.due("lay(3, 7, 1)", x.lay(3, 7, 1), -12);
        C.due("lay(2, 0, 1)", x.lay(2, 0, 1), -11);
    }

    private static void lay() {
        GloveAbout x = Check.told("signer 2 6;signer 3 6;");
        x.sheet(1, 2, 4);
        C.due("lay(-1, 0, 0)", x.lay(-1, 0, 0), BAD);
        C.due("lay(4, 0, 0)", x.lay(4, 0, 0), BAD);
        C.due("lay(0, 0, 0)", x.lay(0, 0, 0), -11);
        C.due("lay(0, -1, 0): nothing has no index", x.lay(0, -1, 0), -11);
        C.due("lay(1, -1, 0)", x.lay(1, -1, 0), -12);
        C.due("lay(1, 4, 0)", x.lay(1, 4, 0), -12);
        C.due("lay(1, MAX, 0)", x.lay(1, Integer.MAX_VALUE, 0), -12);
        C.due("lay(1, 0, 1)", x.lay(1, 0, 1), 1);
        C.due("lay(1, 1, 9)", x.lay(1, 1, 9), 1);
        C.due("lay(1, 3, 5)", x.lay(1, 3, 5), 1);
        C.due("read(1, 2, 0, 2)", x.read(1, 2, 0, 2), 2);
        C.due("glove(1, 1)", x.glove(1, 1), 9);
        C.due("glove(0, 1)", x.glove(0, 1), 5);
        x.sheet(1, 2, 4);
        C.due("read(1, 2, 0, 2) of a new row", x.read(1, 2, 0, 2), 2);
        C.due("glove(0, 1)", x.glove(0, 1), 0);
        C.due("glove(1, 1)", x.glove(1, 1), 9);
    }

    /** What stands in a CELL is told by whether a DOOR can be read of it. */
    private static int doorRead(int lane, int v) {
        GloveAbout x = Check.told("signer 2 6;");
        x.sheet(0, lane, 2);
        C.due("lay(0, 1, v)", x.lay(0, 1, v), 1);
        int came = x.read(0, lane, 0, 1);
        return came == 1 ? x.glove(0, 1) : came;
    }

    private static void lowestBits() {
        C.due("byte of 256 and 7", doorRead(0, 256 + 7), 7);
        C.due("byte of -249", doorRead(0, -249), 7);
        C.due("byte of 65536 and 11", doorRead(0, 65536 + 11), 11);
        C.due("byte of 128 and 7 is below 0", doorRead(0, 128 + 7), -20);
        C.due("short of 256 and 7", doorRead(1, 256 + 7), -20);
        C.due("short of 65536 and 7", doorRead(1, 65536 + 7), 7);
        C.due("short of 32768", doorRead(1, 32768), -20);
        C.due("int of 65536 and 7", doorRead(2, 65536 + 7), -20);
        C.due("int of 7", doorRead(2, 7), 7);
    }

    private static GloveAbout withSheet(String text, int lane, int... cells) {
        GloveAbout x = Check.told(text);
        x.sheet(2, lane, cells.length);
        for (int i = 0; i < cells.length; i++) {
            x.lay(2, i, cells[i]);
        }
        return x;
    }

    private static void read() {
        GloveAbout x = withSheet("signer 2 6;signer 3 6;", 1, 9, 0, 4, 1, 11, 0, 5);
        int[][] wrong = {{-1, 1, 0, 1}, {4, 1, 0, 1}, {2, -1, 0, 1}, {2, 3, 0, 1}, {2, 1, 0, -1}, {2, 1, 0, 21}};
        for (int[] w : wrong) {
            C.due("wrong read", x.read(w[0], w[1], w[2], w[3]), BAD);
        }
        C.due("read(2, 1, 1, 0)", x.read(2, 1, 1, 0), 0);
        C.due("read(2, 1, 1, 1)", x.read(2, 1, 1, 1), 1);
        C.due("glove(0, 1)", x.glove(0, 1), 4);
        C.due("read(2, 1, 1, 3)", x.read(2, 1, 1, 3), 3);
        C.due("glove(0, 1): the later one", x.glove(0, 1), 5);
        C.due("glove(1, 1)", x.glove(1, 1), 11);
        C.due("torn()", x.torn(), 0);
        GloveAbout y = Check.told("signer 2 6;");
        y.sheet(0, 0, 40);
        C.due("read(0, 0, 0, 20)", y.read(0, 0, 0, 20), 20);
        C.due("torn()", y.torn(), 0);
        C.due("read(0, 0, 1, 20)", y.read(0, 0, 1, 20), 19);
        C.due("torn()", y.torn(), 2);
    }

    private static void readRefused() {
        GloveAbout x = withSheet("signer 2 6;signer 3 6;man 0;", 0, 0, 4, 1, 12, 2, 5, 1, 7);
        C.due("read(2, 0, 0, 2): no such door", x.read(2, 0, 0, 2), -21);
        C.due("none came", x.glove(0, 1), 2);
        C.due("read(2, 0, 4, 2): no such glove", x.read(2, 0, 4, 2), -20);
        x.lay(2, 3, 11);
        C.due("read(2, 0, 0, 3)", x.read(2, 0, 0, 3), -22);
        C.due("none came", x.glove(1, 1), 3);
        x.lay(2, 4, -1);
        C.due("read(2, 0, 0, 3)", x.read(2, 0, 0, 3), -22);
        x.lay(2, 4, 1);
        x.go(3);
        x.days(1);
        C.due("rule(4)", x.rule(4), 1);
        C.due("read(2, 0, 2, 1)", x.read(2, 0, 2, 1), 1);
        C.due("read(2, 0, 0, 1): it is paired", x.read(2, 0, 0, 1), -20);
        x.lay(2, 6, 0);
        C.due("read(2, 0, 2, 3): it is paired", x.read(2, 0, 2, 3), -22);
        C.due("glove(1, 1): none came", x.glove(1, 1), 11);
    }

    private static void readTorn() {
        GloveAbout x = withSheet("signer 2 6;signer 3 6;", 2, 0, 4, 1, 11, 0);
        C.due("read(2, 2, 0, 3)", x.read(2, 2, 0, 3), 2);
        C.due("torn()", x.torn(), 2);
        C.due("glove(0, 1): what was whole came", x.glove(0, 1), 4);
        C.due("glove(1, 1)", x.glove(1, 1), 11);
        C.due("read(2, 2, -1, 1)", x.read(2, 2, -1, 1), 0);
        C.due("torn()", x.torn(), 2);
        C.due("read(2, 2, 0, 2)", x.read(2, 2, 0, 2), 2);
        C.due("torn()", x.torn(), 0);
        C.due("read(2, 2, 5, 1)", x.read(2, 2, 5, 1), 0);
        C.due("torn()", x.torn(), 2);
        x.read(2, 2, 0, 1);
        C.due("read(2, 2, MAX, 20)", x.read(2, 2, Integer.MAX_VALUE, 20), 0);
        C.due("torn()", x.torn(), 2);
        C.due("read(2, 2, MIN, 20)", x.read(2, 2, Integer.MIN_VALUE, 20), 0);
        C.due("read(2, 1, 0, 1): another lane", x.read(2, 1, 0, 1), 0);
        C.due("torn()", x.torn(), 3);
        C.due("read(2, 0, -1, 1): the lane ahead of the index", x.read(2, 0, -1, 1), 0);
        C.due("torn()", x.torn(), 3);
        C.due("read(0, 0, -1, 1): nothing", x.read(0, 0, -1, 1), 0);
        C.due("torn()", x.torn(), 1);
        C.due("read(4, 0, 0, 1)", x.read(4, 0, 0, 1), BAD);
        C.due("torn(): that one came to no end", x.torn(), 1);
        x.lay(2, 0, 9);
        C.due("read(2, 2, 0, 1)", x.read(2, 2, 0, 1), -20);
        C.due("torn(): nor did that one", x.torn(), 1);
        C.due("lay(1, 0, 0)", x.lay(1, 0, 0), -11);
        C.due("sheet(2, 0, -1)", x.sheet(2, 0, -1), -14);
        C.due("torn(): of read() alone", x.torn(), 1);
    }

    /** Of 0 times nothing is taken as of a lane and no CELL is asked: no NULL, no INDEX, no CAST. */
    private static void readOfNothing() {
        GloveAbout x = withSheet("signer 2 6;", 2, 0, 4);
        for (int lane = 0; lane < 3; lane++) {
            tornBehindReadOfNone(x, 0, lane, 0);
            tornBehindReadOfNone(x, 2, lane, 0);
            tornBehindReadOfNone(x, 2, lane, -5);
            tornBehindReadOfNone(x, 2, lane, Integer.MAX_VALUE);
        }
    }

    private static void tornBehindReadOfNone(GloveAbout x, int k, int lane, int f) {
        x.read(0, 0, 0, 1);
        C.due("torn() behind a read() of nothing", x.torn(), 1);
        C.due("read(" + k + ", " + lane + ", " + f + ", 0)", x.read(k, lane, f, 0), 0);
        C.due("torn()", x.torn(), 0);
        C.due("glove(0, 1)", x.glove(0, 1), 2);
    }

    private static void theFirstMet() {
        GloveAbout x = withSheet("signer 2 6;", 0, 0, 4, 0, 12, 0);
        C.due("refused ahead of torn", x.read(2, 0, 0, 3), -21);
        C.due("none came", x.glove(0, 1), 2);
        C.due("torn()", x.torn(), 0);
        x.lay(2, 3, 5);
        x.lay(2, 4, 77);
        C.due("torn ahead of refused: not whole", x.read(2, 0, 0, 3), 2);
        C.due("glove(0, 1)", x.glove(0, 1), 5);
        C.due("torn()", x.torn(), 2);
    }

    private static void count() {
        GloveAbout x = Check.told("signer 2 6;shy 3 20;bold 4 0;fame 1 2 3 0 0 0 0 0 0 0 0 9;");
        C.due("count(4)", x.count(4), 26);
        C.due("count(5)", x.count(5), 15);
        C.due("count(3)", x.count(3), GloveAbout.NONE);
        x.sheet(1, 0, 9);
        C.due("count(3): of sheet 0", x.count(3), GloveAbout.NONE);
        x.sheet(0, 0, 9);
        C.due("count(3)", x.count(3), 9);
        x.see(1, 1, 1);
        C.due("count(0)", x.count(0), 1);
        x.keep(1);
        C.due("count(1)", x.count(1), 1);
        x.feed(65);
        C.due("count(2)", x.count(2), 1);
        C.due("count(-1)", x.count(-1), BAD);
        C.due("count(6)", x.count(6), BAD);
        Check.tell(new GloveAbout(), "");
        x.end(0);
        Check.tell(x, "bold 1 3;");
        C.due("count(4): of gloves that are", x.count(4), 3);
    }
}
