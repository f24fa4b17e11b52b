/** Promises 35 and 36: images. */
public final class ImageTest {
    private static final Check C = new Check("ImageTest");

    public static void main(String[] args) {
        wrongOnes();
        all();
        whatWasSeen();
        two();
        sheetsAndTapeStay();
        C.finish();
    }

    private static void whatWasSeen() {
        GloveAbout x = Check.told("signer 2 9;signer 5 9;man 9;");
        x.see(1, 0, 3);
        x.see(2, 1, 7);
        x.keep(0);
        C.due("doors(0)", x.doors(0), 4);
        C.due("doors(1)", x.doors(1), 32);
        x.forget(0);
        x.see(3, 1, 8);
        x.see(3, 0, 5);
        x.see(0, 0, 11);
        C.due("doors(0) of others", x.doors(0), 0);
        x.keep(1);
        x.back(0);
        C.due("count(0)", x.count(0), 2);
        C.due("doors(0)", x.doors(0), 4);
        C.due("doors(1)", x.doors(1), 32);
        C.due("forget(1)", x.forget(1), 2);
        C.due("doors(0)", x.doors(0), 4);
        C.due("doors(1): the first is of the other one", x.doors(1), 4095);
        x.back(1);
        C.due("count(0)", x.count(0), 3);
        x.forget(2);
        C.due("doors(0)", x.doors(0), 4);
        C.due("doors(1)", x.doors(1), 32);
        x.forget(1);
        C.due("doors(0): the first is of the other one", x.doors(0), 4095);
    }

    private static void wrongOnes() {
        GloveAbout x = new GloveAbout();
        C.due("keep(-1)", x.keep(-1), GloveAbout.BAD);
        C.due("keep(2)", x.keep(2), GloveAbout.BAD);
        C.due("back(-1)", x.back(-1), GloveAbout.BAD);
        C.due("back(2)", x.back(2), GloveAbout.BAD);
        C.due("back(0)", x.back(0), GloveAbout.STATE);
        C.due("back(1)", x.back(1), GloveAbout.STATE);
        C.due("count(1)", x.count(1), 0);
    }

    private static void all() {
        GloveAbout x = Check.told("signer 2 6;bold 9 4;fame 1 2 3 4 5 6 7 8 9 8 7 6;route 5 11;man 1;");
        x.days(3);
        x.see(1, 1, 4);
        x.see(2, 0, 5);
        C.due("keep(0)", x.keep(0), 0);
        String kept = Check.stateOf(x);
        int kinds = x.kinds(1);
        change(x);
        C.holds("all is another", !kept.equals(Check.stateOf(x)));
        C.due("back(0)", x.back(0), 3);
        C.holds("all is as it was", kept.equals(Check.stateOf(x)));
        C.due("kinds(1)", x.kinds(1), kinds);
        change(x);
        C.due("back(0): an image stays", x.back(0), 3);
        C.holds("all is as it was", kept.equals(Check.stateOf(x)));
    }

    private static void change(GloveAbout x) {
        x.days(2);
        x.leave(0);
        for (int g = 0; g < 2; g++) {
            x.alter(g, 0, 1);
            x.alter(g, 1, 10);
            x.alter(g, 2, 17);
        }
        for (int d = 0; d < 12; d++) {
            x.fame(d, 0);
        }
        x.go(8);
        x.cut(0);
        x.call(7);
        x.forget(0);
        x.see(20, 1, 2);
    }

    private static void two() {
        GloveAbout x = Check.told("signer 2 6;");
        C.due("keep(0)", x.keep(0), 0);
        x.days(4);
        C.due("keep(1)", x.keep(1), 0);
        C.due("count(1)", x.count(1), 2);
        x.days(5);
        C.due("keep(1)", x.keep(1), 1);
        C.due("back(0)", x.back(0), 0);
        C.due("glove(0, 1)", x.glove(0, 1), 2);
        C.due("back(1)", x.back(1), 9);
        C.due("glove(0, 1)", x.glove(0, 1), 8);
        C.due("count(1)", x.count(1), 2);
        C.due("text()", Check.tell(x, "man 3;!"), -16);
        C.due("count(1): a refused text leaves them", x.count(1), 2);
        C.due("text()", Check.tell(x, "man 3;"), 1);
        C.due("count(1): a taken one does not", x.count(1), 0);
        C.due("keep(1)", x.keep(1), 0);
    }

    private static void sheetsAndTapeStay() {
        GloveAbout x = Check.told("signer 2 6;");
        x.sheet(0, 0, 4);
        x.keep(0);
        x.sheet(0, 0, 7);
        Check.feedAll(x, "man");
        x.back(0);
        C.due("count(3)", x.count(3), 7);
        C.due("count(2)", x.count(2), 3);
    }
}
