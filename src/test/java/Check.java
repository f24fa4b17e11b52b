/** Counts the answers of one test that are not as due, and tells each. */
final class Check {
    private final String test;
    private int asked;
    private int wrong;

    Check(String test) {
        this.test = test;
    }

    void due(String call, long got, long want) {
        asked++;
        if (got != want) {
            wrong++;
            System.out.println(test + ": " + call + " answered " + got + ", due is " + want);
        }
    }

    void holds(String what, boolean isSo) {
        due(what, isSo ? 1 : 0, 1);
    }

    void finish() {
        System.out.println(test + ": " + (asked - wrong) + " of " + asked + " as due");
        if (wrong != 0 || asked == 0) {
            System.exit(1);
        }
    }

    static void feedAll(GloveAbout x, String text) {
        for (int i = 0; i < text.length(); i++) {
            x.feed(text.charAt(i));
        }
    }

    static int tell(GloveAbout x, String text) {
        feedAll(x, text);
        return x.text();
    }

    static GloveAbout told(String text) {
        GloveAbout x = new GloveAbout();
        int lines = tell(x, text);
        if (lines < 0) {
            throw new IllegalStateException("refused: " + text + " " + lines + ", fault " + x.fault());
        }
        return x;
    }

    /** The state that calls can ask for, as one text. */
    static String stateOf(GloveAbout x) {
        StringBuilder all = new StringBuilder();
        for (int what = 0; what <= 6; what++) {
            all.append(x.rule(what)).append(' ');
        }
        for (int g = 0; g < 4; g++) {
            for (int what = 0; what <= 5; what++) {
                all.append(x.glove(g, what)).append(' ');
            }
        }
        for (int d = 0; d < 12; d++) {
            all.append(x.door(d, 0)).append(' ');
        }
        for (int i = 0; i < 6; i++) {
            all.append(x.stop(i)).append(' ');
        }
        for (int what = 0; what <= 5; what++) {
            all.append(x.count(what)).append(' ');
        }
        return all.append(x.fault()).append(' ').append(x.torn()).toString();
    }
}
