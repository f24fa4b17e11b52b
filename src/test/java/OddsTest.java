/** Promises 27, 28 and 34: days on which the man stays by odds, and days by a seed. */
public final class OddsTest {
    private static final int BAD = GloveAbout.BAD;
    private static final Check C = new Check("OddsTest");

    public static void main(String[] args) {
        luck();
        luckOfSeveralDays();
        mean();
        drift();
        driftByOwnSum();
        driftOfManyDays();
        trialsChangeNothing();
        C.finish();
    }

    private static void luckIs(GloveAbout x, int v, int g, int n, long over, long under) {
        String call = "luck(" + v + ", " + g + ", " + n + ", ";
        C.due(call + "0)", x.luck(v, g, n, 0), over);
        C.due(call + "1)", x.luck(v, g, n, 1), under);
    }

    private static void meanIs(GloveAbout x, int v, int n, long over, long under) {
        String call = "mean(" + v + ", " + n + ", ";
        C.due(call + "0)", x.mean(v, n, 0), over);
        C.due(call + "1)", x.mean(v, n, 1), under);
    }

    private static void luck() {
        GloveAbout x = Check.told("signer 2 6;fame 0 0 0 4;route 3;man 9;");
        luckIs(x, 3, 0, 1, 7, 10);
        luckIs(x, 2, 0, 1, 4, 5);
        luckIs(x, 5, 0, 1, 1, 2);
        luckIs(x, 0, 0, 1, 1, 1);
        luckIs(x, 10, 0, 1, 0, 1);
        luckIs(x, 5, 0, 0, 0, 1);
        luckIs(x, 3, 0, 2, 7, 10);
        luckIs(x, 3, 0, 8, 7, 10);
        long[][] wrong = {{-1, 0, 1, 0}, {11, 0, 1, 0}, {1, 1, 1, 0}, {1, -1, 1, 0}, {1, 0, -1, 0}, {1, 0, 9, 0},
            {1, 0, 1, 2}, {1, 0, 1, -1}};
        for (long[] w : wrong) {
            C.due("wrong luck", x.luck((int) w[0], (int) w[1], (int) w[2], (int) w[3]), BAD);
        }
        x.days(1);
        luckIs(x, 10, 0, 8, 1, 1);
        luckIs(x, 10, 0, 0, 1, 1);
    }

    private static void luckOfSeveralDays() {
        GloveAbout x = Check.told("signer 1 9;signer 5 9;signer 7 9;signer 11 0;route 3 7;man 9;");
        // Glove 0 is at 3 on day 2: he went there on day 1 and stays on day 2.
        luckIs(x, 3, 0, 2, 21, 100);
        // Glove 1 is at 7 on day 2: he goes there on day 2, whatever he did on day 1.
        luckIs(x, 3, 1, 2, 7, 10);
        // Glove 2 is at 9 on day 2: he stays twice.
        luckIs(x, 3, 2, 2, 9, 100);
        luckIs(x, 3, 3, 8, 0, 1);
        GloveAbout y = Check.told("signer 0 9;route 1 8;man 8;");
        // The glove is at DOOR n on day n: it is met on day 1, or on day 8 where he stayed on day 1 and is at 8 then.
        long under = 100_000_000L;
        long over = 0;
        for (int mask = 0; mask < 256; mask++) {
            int man = 8;
            boolean met = false;
            long weight = 1;
            for (int day = 1; day <= 8; day++) {
                boolean stays = (mask >> day - 1 & 1) == 1;
                weight *= stays ? 1 : 9;
                man = stays ? man : day % 2 == 1 ? 1 : 8;
                met |= day == man;
            }
            over += met ? weight : 0;
        }
        luckIs(y, 1, 0, 8, over / gcd(over, under), under / gcd(over, under));
    }

    private static long gcd(long a, long b) {
        return b == 0 ? a : gcd(b, a % b);
    }

    private static void mean() {
        GloveAbout x = Check.told("signer 2 6;fame 0 0 0 4 1;route 3;man 9;");
        meanIs(x, 3, 1, 6, 5);
        meanIs(x, 0, 1, 0, 1);
        meanIs(x, 10, 1, 4, 1);
        meanIs(x, 3, 0, 0, 1);
        meanIs(x, 3, 2, 3, 2);
        meanIs(x, 3, 8, 3, 2);
        meanIs(x, 1, 2, 1, 2);
        x.fame(3, 9);
        meanIs(x, 5, 8, 5, 1);
        C.due("mean(-1, 1, 0)", x.mean(-1, 1, 0), BAD);
        C.due("mean(11, 1, 0)", x.mean(11, 1, 0), BAD);
        C.due("mean(1, -1, 0)", x.mean(1, -1, 0), BAD);
        C.due("mean(1, 9, 0)", x.mean(1, 9, 0), BAD);
        C.due("mean(1, 1, 2)", x.mean(1, 1, 2), BAD);
        C.due("mean(1, 1, -1)", x.mean(1, 1, -1), BAD);
        x.go(8);
        C.due("days(1): NAME is not 0", x.days(1) + x.alter(0, 2, 5), 6);
        GloveAbout y = Check.told("signer 2 6;fame 0 0 0 4 1;man 9;");
        y.days(1);
        meanIs(y, 5, 1, 1, 1);
        GloveAbout none = new GloveAbout();
        meanIs(none, 5, 8, 0, 1);
    }

    private static void drift() {
        GloveAbout x = Check.told("signer 11 5;signer 4 5;fame 0 0 0 0 0 7;route 8;man 8;");
        // From seed 0 comes 12345: bits 16 to 30 of it are 0, so he goes to DOOR 0.
        C.due("drift(0, 1, 1)", x.drift(0, 1, 1), 1);
        C.due("drift(0, 1, 0)", x.drift(0, 1, 0), 7);
        C.due("drift(0, 0, 0)", x.drift(0, 0, 0), BAD);
        C.due("drift(0, -1, 0)", x.drift(0, -1, 0), BAD);
        C.due("drift(0, 61, 0)", x.drift(0, 61, 0), BAD);
        C.due("drift(0, 1, 2)", x.drift(0, 1, 2), BAD);
        C.due("drift(0, 1, -1)", x.drift(0, 1, -1), BAD);
        C.holds("drift(0, 60, 1)", x.drift(0, 60, 1) >= 1);
    }

    /** On the door that the seed tells, and on no other, a signer one door ahead of it is met on the first day. */
    private static void driftByOwnSum() {
        int[] seeds = {1, -1, 7, 42, 2026, 123456789, -987654321, Integer.MAX_VALUE, Integer.MIN_VALUE};
        for (int seed : seeds) {
            long sum = Math.floorMod(seed * 1103515245L + 12345, 1L << 32);
            int door = (int) (sum / 65536 % 32768 % 12);
            for (int d = 0; d < 12; d++) {
                GloveAbout x = Check.told("signer 0 5;");
                x.alter(0, 1, (d + 11) % 12);
                C.due("drift(" + seed + ", 1, 1), the glove comes to " + d, x.drift(seed, 1, 1), d == door ? 1 : 0);
            }
        }
    }

    /** A signer is at its door and n more on day n, so that the doors of all days show. */
    private static void driftOfManyDays() {
        for (int seed = -50; seed < 50; seed++) {
            GloveAbout x = Check.told("signer 0 20;fame 1 1 1 1 1 1 1 1 1 1 1 1;");
            long sum = seed;
            int met = 0;
            for (int n = 1; n <= 20; n++) {
                sum = Math.floorMod(sum * 1103515245L + 12345, 1L << 32);
                met = met == 0 && sum / 65536 % 32768 % 12 == n % 12 ? n : met;
                C.due("drift(" + seed + ", " + n + ", 1)", x.drift(seed, n, 1), met > 0 ? 1 : 0);
                C.due("drift(" + seed + ", " + n + ", 0)", x.drift(seed, n, 0), met > 0 ? met - 1 : n);
            }
        }
    }

    private static void trialsChangeNothing() {
        GloveAbout x = Check.told("signer 2 6;bold 9 4;fame 0 0 0 5 6 7 0 0 0 0 3 2;route 5 11 4;man 1;");
        x.days(1);
        String before = Check.stateOf(x);
        x.luck(4, 0, 8, 0);
        x.mean(4, 8, 1);
        x.drift(99, 60, 0);
        C.holds("all is as it was", before.equals(Check.stateOf(x)));
    }
}
