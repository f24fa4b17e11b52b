/** Boundary cases of days by odds and by a seed: promises 27, 28 and 34 and their terms. */
final class OddsBoundaries {
    private static final int BAD = GloveAbout.BAD;
    /** The signer is AT 8 behind 8 DAYS; he is there, unless he stays on all of them. */
    private static final String EIGHT_DAYS = "signer 0 8;fame 0 0 0 0 0 0 0 0 9;route 8;";
    private static final String[] SEEDS = {"0", "1", "-1", "12345", "MAX", "MIN", "2147483646", "-2147483647"};
    private final Sentences s;

    private OddsBoundaries(Sentences s) {
        this.s = s;
    }

    static void all(Sentences s) {
        OddsBoundaries all = new OddsBoundaries(s);
        all.fractionsInLowestTerms();
        all.luckAtItsEnds();
        all.luckWithinBounds();
        all.meanAtItsEnds();
        all.meanWithinBounds();
        all.driftAtItsEnds();
        all.driftOfTheSeed();
        all.driftWithinBounds();
    }

    private static Play luck(Play x, int v, int n, long over, long under) {
        String call = "luck(" + v + ", 0, " + n + ", ";
        return x.due(call + "0)", over).due(call + "1)", under);
    }

    private static Play mean(Play x, int v, int n, long over, long under) {
        String call = "mean(" + v + ", " + n + ", ";
        return x.due(call + "0)", over).due(call + "1)", under);
    }

    private void fractionsInLowestTerms() {
        s.ofTerms("Fractions are in lowest terms, the denominator above 0 (0 is 0 by 1).");
        Play x = s.play(EIGHT_DAYS);
        luck(x, 5, 8, 255, 256);
        luck(x, 2, 8, 390624, 390625);
        luck(x, 5, 7, 0, 1);
        mean(x, 5, 8, 9, 256);
        mean(x, 2, 8, 9, 390625);
        mean(x, 5, 7, 0, 1);
        x.does("fame(8, 4)");
        mean(x, 5, 8, 1, 64);
        x.does("fame(8, 0)");
        mean(x, 5, 8, 0, 1);
        mean(s.play(), 10, 8, 0, 1);
    }

    private void luckAtItsEnds() {
        s.ofPromise(27, "On each of n DAYS (0 to 8) THE MAN stays where he is by v out of ten (0 to 10), by itself");
        Play x = s.play(EIGHT_DAYS);
        luck(x, 1, 8, 99_999_999L, 100_000_000L);
        luck(x, 9, 8, 56_953_279L, 100_000_000L);
        luck(x, 0, 8, 1, 1);
        luck(x, 10, 8, 0, 1);
        luck(x, 0, 7, 0, 1);
        luck(x, 0, 0, 0, 1);
        luck(x, 10, 0, 0, 1);
        x.does("days(8)").due("rule(4)", 1);
        luck(x, 0, 0, 1, 1);
        luck(x, 10, 8, 1, 1);
        // Where he is he meets the one that comes: without CALLS he stays in any case.
        Play y = s.play("signer 2 1;man 3;");
        luck(y, 0, 1, 1, 1);
        luck(y, 10, 1, 1, 1);
        luck(y, 3, 8, 1, 1);
    }

    private void luckWithinBounds() {
        s.ofPromise(27, "that a GLOVE is PAIRED behind them: 0, 1. BAD.");
        Play x = s.play(EIGHT_DAYS).refused(BAD, "luck(-1, 0, 1, 0)", "luck(11, 0, 1, 0)", "luck(MIN, 0, 1, 0)");
        x.refused(BAD, "luck(1, -1, 1, 0)", "luck(1, 1, 1, 0)", "luck(1, 4, 1, 0)", "luck(1, MAX, 1, 0)");
        x.refused(BAD, "luck(1, 0, -1, 0)", "luck(1, 0, 9, 0)", "luck(1, 0, MIN, 0)", "luck(1, 0, MAX, 0)");
        x.refused(BAD, "luck(1, 0, 1, -1)", "luck(1, 0, 1, 2)", "luck(1, 0, 1, MIN)", "luck(MAX, 0, 1, MAX)");
    }

    private void meanAtItsEnds() {
        s.ofPromise(28, "Likewise, the mean of by how much NAME is more: 0, 1.");
        Play x = s.play(EIGHT_DAYS);
        mean(x, 1, 8, 9, 100_000_000L);
        mean(x, 9, 8, 387_420_489L, 100_000_000L);
        mean(x, 0, 8, 0, 1);
        mean(x, 10, 8, 9, 1);
        mean(x, 10, 7, 0, 1);
        mean(x, 10, 0, 0, 1);
        Play end = DayBoundaries.nearTheEndOfName(s);
        mean(end, 0, 1, 27, 1);
        mean(end, 10, 8, 27, 1);
        mean(end, 5, 3, 27, 1);
    }

    private void meanWithinBounds() {
        s.ofPromise(28, "BAD.");
        Play x = s.play(EIGHT_DAYS).refused(BAD, "mean(-1, 1, 0)", "mean(11, 1, 0)", "mean(MIN, 1, 0)",
            "mean(MAX, 1, 0)");
        x.refused(BAD, "mean(1, -1, 0)", "mean(1, 9, 0)", "mean(1, MIN, 0)", "mean(1, MAX, 0)");
        x.refused(BAD, "mean(1, 1, -1)", "mean(1, 1, 2)", "mean(1, 1, MIN)", "mean(1, 1, MAX)", "mean(11, 9, 2)");
    }

    // ---- by a seed

    private static long seedOf(String word) {
        return word.equals("MIN") ? Integer.MIN_VALUE : word.equals("MAX") ? Integer.MAX_VALUE : Long.parseLong(word);
    }

    private static long next(long seed) {
        return Math.floorMod(seed * 1103515245L + 12345L, 1L << 32);
    }

    private static int doorOf(long seed) {
        return (int) (seed / 65536 % 32768 % 12);
    }

    private void driftAtItsEnds() {
        s.ofPromise(34, "By itself, n DAYS (1 to 60) by a seed");
        Play x = s.play("signer 0 20;fame 1 1 1 1 1 1 1 1 1 1 1 1;route 5;");
        x.refused(BAD, "drift(1, 0, 0)", "drift(1, -1, 0)", "drift(1, 61, 0)", "drift(1, MIN, 1)", "drift(1, MAX, 1)");
        for (String word : SEEDS) {
            long seed = seedOf(word);
            int met = 0;
            for (int day = 1; day <= 20 && met == 0; day++) {
                seed = next(seed);
                met = doorOf(seed) == day % 12 ? day : 0;
            }
            x.due("drift(" + word + ", 1, 0)", met == 1 ? 0 : 1).due("drift(" + word + ", 1, 1)", met == 1 ? 1 : 0);
            x.due("drift(" + word + ", 60, 0)", met > 0 ? met - 1 : 20)
                .due("drift(" + word + ", 60, 1)", met > 0 ? 1 : 0);
        }
        x.due("rule(1)", 0).due("rule(2)", 0).due("rule(3)", 0);
    }

    private void driftOfTheSeed() {
        s.ofPromise(34,
            "ahead of each the seed becomes seed times 1103515245 and 12345; bits 16 to 30 of it are got: in that "
            + "DAY THE MAN goes to DOOR got modulo 12, whatever THE ROUTE is");
        for (String word : SEEDS) {
            int door = doorOf(next(seedOf(word)));
            Play x = s.play("signer 0 1;");
            for (int d = 0; d < 12; d++) {
                x.does("alter(0, 1, " + (d + 11) % 12 + ")").due("drift(" + word + ", 1, 1)", d == door ? 1 : 0);
            }
        }
    }

    private void driftWithinBounds() {
        s.ofPromise(34, "by how much NAME is more in the end (what 0), how many are PAIRED then (1). BAD.");
        Play x = s.play("signer 2 6;man 3;").refused(BAD, "drift(0, 1, -1)", "drift(0, 1, 2)", "drift(0, 1, MIN)");
        x.refused(BAD, "drift(MAX, 60, MAX)", "drift(MIN, 61, 0)", "drift(0, 0, 2)").does("days(1)")
            .due("drift(0, 60, 1)", 1);
        Play four = s.play("signer 11 1;signer 11 1;signer 11 1;signer 11 1;fame 9;");
        // From seed 0 comes 12345, of which bits 16 to 30 are 0: DOOR 0.
        four.due("drift(0, 1, 1)", 4).due("drift(0, 1, 0)", 0);
        DayBoundaries.nearTheEndOfName(s).does("fame(8, 9)").due("drift(0, 1, 0)", 27).due("drift(0, 60, 0)", 27);
    }
}
