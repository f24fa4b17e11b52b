import java.util.Arrays;

/** Gloves that go about by themselves, and the man who goes about after them. */
public final class GloveAbout {
    public static final int BAD = -1, STATE = -2, FULL = -3, NONE = -4;

    private static final int DOOR_COUNT = 12;
    private static final int KIND_COUNT = 4;
    private static final int GLOVE_LIMIT = 4;
    private static final int CALL_LIMIT = 6;
    private static final int WARM_LIMIT = 20;
    private static final int FAME_LIMIT = 9;
    private static final int NAME_LIMIT = 9999;
    private static final int DAY_LIMIT = 999;
    private static final int TAPE_LIMIT = 160;
    private static final int SEEN_LIMIT = 6;
    private static final int IMAGE_COUNT = 2;
    private static final int SHEET_COUNT = 4;
    private static final int LANE_COUNT = 3;
    private static final int CELL_LIMIT = 40;

    private static final int DAYS_AT_ONCE = 30;
    private static final int DAYS_AHEAD = 60;
    private static final int DAYS_BY_ODDS = 8;
    private static final int DAYS_SEEN = 20;
    private static final int READ_LIMIT = 20;
    private static final int ODDS = 10;

    private static final int SIGNER = 0, DANCER = 1, SHY = 2;
    private static final int KIND = 0, AT = 1, WARM = 2;
    private static final int NULL_FAULT = 1, INDEX_FAULT = 2, CAST_FAULT = 3, SIZE_FAULT = 4;
    private static final int NO_GLOVE = -1;

    private final World now = new World();
    private final Sights seen = new Sights();
    private final World trial = new World();
    private final World[] branches = new World[DAYS_BY_ODDS + 1];
    private final TextReader reader = new TextReader();
    private final Image[] images = new Image[IMAGE_COUNT];
    private final Sheet[] sheets = new Sheet[SHEET_COUNT];
    private int textFault;
    private int readFault;

    public GloveAbout() {
        for (int i = 0; i < branches.length; i++) {
            branches[i] = new World();
        }
        for (int k = 0; k < images.length; k++) {
            images[k] = new Image();
        }
        for (int k = 0; k < sheets.length; k++) {
            sheets[k] = new Sheet();
        }
    }

    // ---- the text

    public int feed(int c) {
        if (!isWithin(c, 127)) {
            return BAD;
        }
        Tape tape = reader.tape;
        if (tape.length >= TAPE_LIMIT) {
            return FULL;
        }
        tape.bytes[tape.length] = (byte) c;
        tape.length++;
        return tape.length;
    }

    public int end(int n) {
        Tape tape = reader.tape;
        if (!isWithin(n, tape.length)) {
            return BAD;
        }
        int had = tape.length;
        tape.length = n;
        return had;
    }

    public int text() {
        boolean taken = reader.takesAll();
        reader.tape.length = 0;
        textFault = reader.fault;
        if (!taken) {
            return -10 - reader.start;
        }
        now.become(reader.draft);
        seen.count = 0;
        for (int k = 0; k < images.length; k++) {
            images[k].kept = false;
        }
        return reader.lines;
    }

    public int fault() {
        return textFault;
    }

    public int rule(int what) {
        switch (what) {
            case 0: return now.gloves;
            case 1: return now.day;
            case 2: return now.man;
            case 3: return now.name;
            case 4: return now.paired;
            case 5: return now.coldOnes();
            case 6: return now.calls;
            default: return BAD;
        }
    }

    public int glove(int g, int what) {
        if (!isGlove(g)) {
            return BAD;
        }
        switch (what) {
            case KIND:
            case AT:
            case WARM: return now.partOf(g, what);
            case 3: return now.isPaired(g) ? 1 : 0;
            case 4: return farOf(now.at[g], now.man);
            case 5: return now.stepOf(g);
            default: return BAD;
        }
    }

    public int door(int d, int what) {
        if (!isDoor(d)) {
            return BAD;
        }
        switch (what) {
            case 0: return now.fames[d];
            case 1: return now.glovesAt(d);
            default: return BAD;
        }
    }

    public int stop(int i) {
        return isCall(i) ? now.route[i] : BAD;
    }

    // ---- what is changed

    public int alter(int g, int what, int v) {
        int refusal = refusalOf(g, what, v);
        if (refusal != 0) {
            return refusal;
        }
        int was = now.partOf(g, what);
        now.putPart(g, what, v);
        return was;
    }

    public int fame(int d, int v) {
        if (!isDoor(d) || !isWithin(v, FAME_LIMIT)) {
            return BAD;
        }
        int was = now.fames[d];
        now.fames[d] = v;
        return was;
    }

    public int leave(int g) {
        if (!isGlove(g)) {
            return BAD;
        }
        if (!now.isPaired(g)) {
            return STATE;
        }
        now.paired &= ~(1 << g);
        return now.at[g];
    }

    public int go(int d) {
        if (!isDoor(d)) {
            return BAD;
        }
        int was = now.man;
        now.moveMan(d);
        return was;
    }

    public int call(int d) {
        if (!isDoor(d)) {
            return BAD;
        }
        if (now.calls >= CALL_LIMIT) {
            return FULL;
        }
        now.route[now.calls] = d;
        now.calls++;
        return now.calls;
    }

    public int cut(int n) {
        if (!isWithin(n, now.calls)) {
            return BAD;
        }
        int had = now.calls;
        now.calls = n;
        return had;
    }

    // ---- days

    public int days(int n) {
        if (!isWithin(n, DAYS_AT_ONCE)) {
            return BAD;
        }
        if (now.day + n > DAY_LIMIT) {
            return FULL;
        }
        int before = now.name;
        now.passDays(n);
        return now.name - before;
    }

    public int runs(int n, int what) {
        if (!isWithin(n, DAYS_AHEAD) || !isWithin(what, 4)) {
            return BAD;
        }
        trial.become(now);
        if (what == 4) {
            return firstPairing(~now.paired, n);
        }
        trial.passDays(n);
        switch (what) {
            case 0: return trial.name - now.name;
            case 1: return trial.paired;
            case 2: return trial.coldOnes();
            default: return trial.man;
        }
    }

    public int ahead(int g, int n, int what) {
        if (!isGlove(g) || !isWithin(n, DAYS_AHEAD) || !isWithin(what, 1)) {
            return BAD;
        }
        trial.become(now);
        trial.passDays(n);
        return what == 0 ? trial.at[g] : trial.warm[g];
    }

    public int meets(int g) {
        if (!isGlove(g)) {
            return BAD;
        }
        trial.become(now);
        return firstPairing(1 << g, DAYS_AHEAD);
    }

    // ---- what is best

    public int place(int i, int n, int what) {
        if (!isCall(i) || !isWithin(n, DAYS_AHEAD) || !isWithin(what, 1)) {
            return BAD;
        }
        return bestDoorOfCall(i, n, what);
    }

    public int extra(int n, int what) {
        if (!isWithin(n, DAYS_AHEAD) || !isWithin(what, 1)) {
            return BAD;
        }
        if (now.calls >= CALL_LIMIT) {
            return FULL;
        }
        return bestDoorOfCall(now.calls, n, what);
    }

    public int swap(int n, int what) {
        if (!isWithin(n, DAYS_AHEAD) || !isWithin(what, 1)) {
            return BAD;
        }
        int most = nameBehind(n);
        int best = NONE;
        for (int i = 0; i < now.calls; i++) {
            for (int j = i + 1; j < now.calls; j++) {
                int name = nameWithSwap(i, j, n);
                if (name > most) {
                    most = name;
                    best = 10 * i + j;
                }
            }
        }
        return best == NONE || what == 0 ? best : most - now.name;
    }

    public int shun(int n, int what) {
        if (!isWithin(n, DAYS_AHEAD) || !isWithin(what, 1)) {
            return BAD;
        }
        int most = nameBehind(n);
        int best = NONE;
        for (int i = 0; i < now.calls; i++) {
            trial.become(now);
            trial.leaveOutCall(i);
            trial.passDays(n);
            if (trial.name > most) {
                most = trial.name;
                best = i;
            }
        }
        return best == NONE || what == 0 ? best : most - now.name;
    }

    public int need(int g, int n) {
        if (!isGlove(g) || !isWithin(n, DAYS_AHEAD)) {
            return BAD;
        }
        trial.become(now);
        trial.putPart(g, WARM, WARM_LIMIT);
        // A step that meets nobody takes 1 off, and the step that meets needs 1 to be made:
        // so the least WARM is the number of the day of the meeting.
        return firstPairing(1 << g, n);
    }

    public int kind(int g, int n, int what) {
        if (!isGlove(g) || !isWithin(n, DAYS_AHEAD) || !isWithin(what, 1)) {
            return BAD;
        }
        return mostNamedPart(g, KIND, n, what);
    }

    public int drop(int g, int n, int what) {
        if (!isGlove(g) || !isWithin(n, DAYS_AHEAD) || !isWithin(what, 1)) {
            return BAD;
        }
        if (now.isPaired(g)) {
            return STATE;
        }
        return mostNamedPart(g, AT, n, what);
    }

    // ---- days on which he stays

    public long luck(int v, int g, int n, int what) {
        if (!isWithin(v, ODDS) || !isGlove(g) || !isWithin(n, DAYS_BY_ODDS) || !isWithin(what, 1)) {
            return BAD;
        }
        return fractionByOdds(v, g, n, what);
    }

    public long mean(int v, int n, int what) {
        if (!isWithin(v, ODDS) || !isWithin(n, DAYS_BY_ODDS) || !isWithin(what, 1)) {
            return BAD;
        }
        return fractionByOdds(v, NO_GLOVE, n, what);
    }

    // ---- from where it was seen

    public int see(int n, int g, int d) {
        if (!isWithin(n, DAYS_SEEN) || !isGlove(g) || !isDoor(d)) {
            return BAD;
        }
        if (seen.count >= SEEN_LIMIT) {
            return FULL;
        }
        seen.add(n, g, d);
        return seen.count;
    }

    public int forget(int n) {
        if (!isWithin(n, seen.count)) {
            return BAD;
        }
        int had = seen.count;
        seen.count = n;
        return had;
    }

    public int kinds(int g) {
        return isGlove(g) ? partsAsSeen(g, KIND) : BAD;
    }

    public int doors(int g) {
        if (!isGlove(g)) {
            return BAD;
        }
        return now.isPaired(g) ? STATE : partsAsSeen(g, AT);
    }

    public int ask(int g, int what) {
        if (!isGlove(g) || !isWithin(what, 1)) {
            return BAD;
        }
        int open = partsAsSeen(g, KIND);
        for (int kind = 0; kind < KIND_COUNT; kind++) {
            branches[kind].become(now);
            branches[kind].putPart(g, KIND, kind);
        }
        int fewest = Integer.bitCount(open);
        int best = NONE;
        for (int n = 0; n <= DAYS_SEEN; n++) {
            int left = mostAtOneDoor(g, open);
            if (left < fewest) {
                fewest = left;
                best = n;
            }
            for (int kind = 0; kind < KIND_COUNT; kind++) {
                branches[kind].passDays(1);
            }
        }
        return best == NONE || what == 0 ? best : fewest;
    }

    // ---- by a seed

    public int drift(int seed, int n, int what) {
        if (n < 1 || n > DAYS_AHEAD || !isWithin(what, 1)) {
            return BAD;
        }
        trial.become(now);
        int state = seed;
        for (int i = 0; i < n; i++) {
            state = state * 1103515245 + 12345;
            trial.passDay((state >>> 16 & 0x7fff) % DOOR_COUNT);
        }
        return what == 0 ? trial.name - now.name : trial.metCount();
    }

    // ---- images, sheets

    public int keep(int k) {
        if (!isWithin(k, IMAGE_COUNT - 1)) {
            return BAD;
        }
        Image image = images[k];
        int was = image.kept ? 1 : 0;
        image.kept = true;
        image.world.become(now);
        image.seen.become(seen);
        return was;
    }

    public int back(int k) {
        if (!isWithin(k, IMAGE_COUNT - 1)) {
            return BAD;
        }
        Image image = images[k];
        if (!image.kept) {
            return STATE;
        }
        now.become(image.world);
        seen.become(image.seen);
        return now.day;
    }

    public int sheet(int k, int lane, int n) {
        if (!isSheet(k) || !isWithin(lane, LANE_COUNT - 1) || n > CELL_LIMIT) {
            return BAD;
        }
        if (n < 0) {
            return -10 - SIZE_FAULT;
        }
        sheets[k].makeNew(lane, n);
        return 1;
    }

    public int lay(int k, int i, int v) {
        if (!isSheet(k)) {
            return BAD;
        }
        int found = sheets[k].faultAt(i);
        if (found != 0) {
            return -10 - found;
        }
        sheets[k].cells[i] = sheets[k].lowestBits(v);
        return 1;
    }

    public int read(int k, int lane, int f, int n) {
        if (!isSheet(k) || !isWithin(lane, LANE_COUNT - 1) || !isWithin(n, READ_LIMIT)) {
            return BAD;
        }
        Sheet sheet = sheets[k];
        int found = 0;
        int whole = 0;
        for (int i = 0; i < n && found == 0; i++) {
            // No overflow: where i is above 0, f was the index of a CELL.
            found = sheet.faultAtPair(lane, f + 2 * i);
            if (found == 0) {
                if (refusalOf(sheet.cells[f + 2 * i], AT, sheet.cells[f + 2 * i + 1]) != 0) {
                    return -20 - i;
                }
                whole++;
            }
        }
        for (int i = 0; i < whole; i++) {
            now.putPart(sheet.cells[f + 2 * i], AT, sheet.cells[f + 2 * i + 1]);
        }
        readFault = found;
        return whole;
    }

    public int torn() {
        return readFault;
    }

    public int count(int what) {
        switch (what) {
            case 0: return seen.count;
            case 1: return imagesKept();
            case 2: return reader.tape.length;
            case 3: return sheets[0].isNothing() ? NONE : sheets[0].size;
            case 4: return sumOf(now.warm, now.gloves);
            case 5: return sumOf(now.fames, DOOR_COUNT);
            default: return BAD;
        }
    }

    // ---- what numbers may be

    private static boolean isWithin(int v, int most) {
        return v >= 0 && v <= most;
    }

    private static boolean isDoor(int d) {
        return isWithin(d, DOOR_COUNT - 1);
    }

    private static boolean isSheet(int k) {
        return isWithin(k, SHEET_COUNT - 1);
    }

    private boolean isGlove(int g) {
        return isWithin(g, now.gloves - 1);
    }

    private boolean isCall(int i) {
        return isWithin(i, now.calls - 1);
    }

    /** The greatest KIND, AT or WARM; below 0 if there is no such part. */
    private static int greatestOf(int part) {
        switch (part) {
            case KIND: return KIND_COUNT - 1;
            case AT: return DOOR_COUNT - 1;
            case WARM: return WARM_LIMIT;
            default: return -1;
        }
    }

    /** What alter() says against it; 0 if nothing. */
    private int refusalOf(int g, int part, int v) {
        if (!isGlove(g) || !isWithin(v, greatestOf(part))) {
            return BAD;
        }
        return part == AT && now.isPaired(g) ? STATE : 0;
    }

    // ---- sums and steps

    /** It calls nothing, not even Math: the longest chain of calls has its end here, eight deep. */
    private static int farOf(int one, int other) {
        int way = one < other ? other - one : one - other;
        return way < DOOR_COUNT - way ? way : DOOR_COUNT - way;
    }

    private static int sumOf(int[] row, int length) {
        int sum = 0;
        for (int i = 0; i < length && i < row.length; i++) {
            sum += row[i];
        }
        return sum;
    }

    private int imagesKept() {
        int kept = 0;
        for (int k = 0; k < images.length; k++) {
            if (images[k].kept) {
                kept++;
            }
        }
        return kept;
    }

    // ---- trials

    /** Behind how many of n days, run on the trial, one of these gloves is PAIRED first; NONE. */
    private int firstPairing(int gloves, int n) {
        for (int day = 0; day <= n; day++) {
            if ((trial.paired & gloves) != 0) {
                return day;
            }
            trial.passDays(1);
        }
        return NONE;
    }

    private int nameBehind(int n) {
        trial.become(now);
        trial.passDays(n);
        return trial.name;
    }

    private int nameWithSwap(int i, int j, int n) {
        trial.become(now);
        trial.route[i] = now.route[j];
        trial.route[j] = now.route[i];
        trial.passDays(n);
        return trial.name;
    }

    /** CALL i may be one more, behind all others. */
    private int bestDoorOfCall(int i, int n, int what) {
        int most = -1;
        int best = 0;
        for (int d = 0; d < DOOR_COUNT; d++) {
            trial.become(now);
            trial.route[i] = d;
            trial.calls = Math.max(now.calls, i + 1);
            trial.passDays(n);
            int met = trial.metCount();
            if (met > most) {
                most = met;
                best = d;
            }
        }
        return what == 0 ? best : most;
    }

    private int mostNamedPart(int g, int part, int n, int what) {
        int most = -1;
        int best = 0;
        for (int v = 0; v <= greatestOf(part); v++) {
            trial.become(now);
            trial.putPart(g, part, v);
            trial.passDays(n);
            if (trial.name > most) {
                most = trial.name;
                best = v;
            }
        }
        return what == 0 ? best : most - now.name;
    }

    private int partsAsSeen(int g, int part) {
        int bits = 0;
        for (int v = 0; v <= greatestOf(part); v++) {
            trial.become(now);
            trial.putPart(g, part, v);
            if (trialGoesAsSeen()) {
                bits |= 1 << v;
            }
        }
        return bits;
    }

    private boolean trialGoesAsSeen() {
        int last = seen.lastDay();
        for (int n = 0; n <= last; n++) {
            if (!seen.fits(n, trial)) {
                return false;
            }
            trial.passDays(1);
        }
        return true;
    }

    /** Branch k is the world in which the glove is of KIND k: how many of the open kinds share a door. */
    private int mostAtOneDoor(int g, int open) {
        int most = 0;
        for (int d = 0; d < DOOR_COUNT; d++) {
            int here = 0;
            for (int kind = 0; kind < KIND_COUNT; kind++) {
                if ((open >> kind & 1) == 1 && branches[kind].at[g] == d) {
                    here++;
                }
            }
            most = Math.max(most, here);
        }
        return most;
    }

    // ---- odds

    private long fractionByOdds(int v, int g, int n, int what) {
        branches[0].become(now);
        long over = weighedBranches(branches, 0, n, v, g);
        long under = 1;
        for (int i = 0; i < n; i++) {
            under *= ODDS;
        }
        long common = commonDivisor(under, over);
        return (what == 0 ? over : under) / common;
    }

    /** The days that are left weigh ODDS each; branch `depth` is the world behind so many days. */
    private static long weighedBranches(World[] branches, int depth, int n, int v, int g) {
        World before = branches[depth];
        if (depth >= n || depth + 1 >= branches.length) {
            return g == NO_GLOVE ? before.name - branches[0].name : before.paired >> g & 1;
        }
        World behind = branches[depth + 1];
        long sum = 0;
        if (v > 0) {
            behind.become(before);
            behind.passDay(before.man);
            sum += v * weighedBranches(branches, depth + 1, n, v, g);
        }
        if (v < ODDS) {
            behind.become(before);
            behind.passDays(1);
            sum += (ODDS - v) * weighedBranches(branches, depth + 1, n, v, g);
        }
        return sum;
    }

    /** Of a number above 0 and one that is not below 0; never less than 1. */
    private static long commonDivisor(long one, long other) {
        long a = one;
        long b = other;
        for (int i = 0; i < 100 && b > 0; i++) {
            long rest = a % b;
            a = b;
            b = rest;
        }
        return Math.max(a, 1);
    }

    // ---- parts

    /** Doors, gloves, the man, his route, NAME and DAY. */
    private static final class World {
        final int[] fames = new int[DOOR_COUNT];
        final int[] kind = new int[GLOVE_LIMIT];
        final int[] at = new int[GLOVE_LIMIT];
        final int[] warm = new int[GLOVE_LIMIT];
        final int[] route = new int[CALL_LIMIT];
        int paired;
        int gloves;
        int calls;
        int man;
        int name;
        int day;

        void makeEmpty() {
            Arrays.fill(fames, 0);
            paired = 0;
            gloves = 0;
            calls = 0;
            man = 0;
            name = 0;
            day = 0;
        }

        void become(World other) {
            System.arraycopy(other.fames, 0, fames, 0, DOOR_COUNT);
            System.arraycopy(other.kind, 0, kind, 0, GLOVE_LIMIT);
            System.arraycopy(other.at, 0, at, 0, GLOVE_LIMIT);
            System.arraycopy(other.warm, 0, warm, 0, GLOVE_LIMIT);
            System.arraycopy(other.route, 0, route, 0, CALL_LIMIT);
            paired = other.paired;
            gloves = other.gloves;
            calls = other.calls;
            man = other.man;
            name = other.name;
            day = other.day;
        }

        int partOf(int g, int part) {
            switch (part) {
                case KIND: return kind[g];
                case AT: return at[g];
                default: return warm[g];
            }
        }

        void putPart(int g, int part, int v) {
            switch (part) {
                case KIND: kind[g] = v; break;
                case AT: at[g] = v; break;
                default: warm[g] = v; break;
            }
        }

        boolean isPaired(int g) {
            return (paired >> g & 1) == 1;
        }

        boolean isCold(int g) {
            return warm[g] == 0 && !isPaired(g);
        }

        int coldOnes() {
            int bits = 0;
            for (int g = 0; g < gloves; g++) {
                if (isCold(g)) {
                    bits |= 1 << g;
                }
            }
            return bits;
        }

        int glovesAt(int d) {
            int bits = 0;
            for (int g = 0; g < gloves; g++) {
                if (at[g] == d) {
                    bits |= 1 << g;
                }
            }
            return bits;
        }

        int metCount() {
            return Integer.bitCount(paired);
        }

        void leaveOutCall(int i) {
            for (int j = i; j + 1 < calls; j++) {
                route[j] = route[j + 1];
            }
            calls--;
        }

        int stepOf(int g) {
            int next = (at[g] + 1) % DOOR_COUNT;
            int previous = (at[g] + DOOR_COUNT - 1) % DOOR_COUNT;
            switch (kind[g]) {
                case SIGNER: return next;
                case DANCER: return (next + 1) % DOOR_COUNT;
                case SHY: return farOf(previous, man) > farOf(next, man) ? previous : next;
                default: return farOf(previous, man) < farOf(next, man) ? previous : next;
            }
        }

        void moveMan(int d) {
            man = d;
            for (int g = 0; g < gloves; g++) {
                if (isPaired(g)) {
                    at[g] = d;
                }
            }
        }

        void passDays(int n) {
            for (int i = 0; i < n; i++) {
                passDay(calls > 0 ? route[day % calls] : man);
            }
        }

        /** A day on which the man goes to this door. */
        void passDay(int d) {
            man = d;
            for (int g = 0; g < gloves; g++) {
                passDayOfGlove(g);
            }
            day++;
        }

        private void passDayOfGlove(int g) {
            if (isPaired(g)) {
                at[g] = man;
                warm[g] = Math.min(warm[g] + 1, WARM_LIMIT);
                return;
            }
            if (isCold(g)) {
                return;
            }
            at[g] = stepOf(g);
            if (at[g] == man) {
                paired |= 1 << g;
                return;
            }
            name = Math.min(name + fames[at[g]], NAME_LIMIT);
            warm[g]--;
        }
    }

    /** What was SEEN, one behind another. */
    private static final class Sights {
        private final int[] day = new int[SEEN_LIMIT];
        private final int[] glove = new int[SEEN_LIMIT];
        private final int[] door = new int[SEEN_LIMIT];
        int count;

        void become(Sights other) {
            System.arraycopy(other.day, 0, day, 0, SEEN_LIMIT);
            System.arraycopy(other.glove, 0, glove, 0, SEEN_LIMIT);
            System.arraycopy(other.door, 0, door, 0, SEEN_LIMIT);
            count = other.count;
        }

        void add(int n, int g, int d) {
            day[count] = n;
            glove[count] = g;
            door[count] = d;
            count++;
        }

        /** Below 0, if there are none. */
        int lastDay() {
            int last = -1;
            for (int i = 0; i < count; i++) {
                last = Math.max(last, day[i]);
            }
            return last;
        }

        boolean fits(int n, World world) {
            for (int i = 0; i < count; i++) {
                if (day[i] == n && world.at[glove[i]] != door[i]) {
                    return false;
                }
            }
            return true;
        }
    }

    private static final class Image {
        final World world = new World();
        final Sights seen = new Sights();
        boolean kept;
    }

    /** A row of CELLS of a lane, or nothing; its cells are used again by the next row. */
    private static final class Sheet {
        private static final int NO_LANE = -1, BYTES = 0, SHORTS = 1;
        final int[] cells = new int[CELL_LIMIT];
        private int lane = NO_LANE;
        int size;

        void makeNew(int newLane, int n) {
            Arrays.fill(cells, 0);
            lane = newLane;
            size = n;
        }

        boolean isNothing() {
            return lane == NO_LANE;
        }

        int faultAt(int i) {
            if (isNothing()) {
                return NULL_FAULT;
            }
            return isWithin(i, size - 1) ? 0 : INDEX_FAULT;
        }

        /** The machine takes nothing as of any lane, so that NULL is met ahead of CAST; CAST is met ahead of INDEX. */
        int faultAtPair(int wanted, int i) {
            if (!isNothing() && lane != wanted) {
                return CAST_FAULT;
            }
            int found = faultAt(i);
            return found != 0 ? found : faultAt(i + 1);
        }

        int lowestBits(int v) {
            switch (lane) {
                case BYTES: return (byte) v;
                case SHORTS: return (short) v;
                default: return v;
            }
        }
    }

    private static final class Tape {
        final byte[] bytes = new byte[TAPE_LIMIT];
        int length;
    }

    /** THE TAPE, and the draft into which it is read, token by token. */
    private static final class TextReader {
        private static final int END = 0, WORD = 1, NUMBER = 2, MARK = 3;
        private static final int FAME = 4, ROUTE = 5, MAN = 6, WORD_COUNT = 7;
        private static final int NO_TOKEN = 1, MISPLACED = 2, OUT_OF_BOUNDS = 3, TOLD_TWICE = 4, TOO_MANY = 5;
        final Tape tape = new Tape();
        final World draft = new World();
        private int next;
        private int token;
        private int number;
        private int told;
        private int rowLength;
        /** Where the latest token begins, which is the place of a fault too. */
        int start;
        int fault;
        int lines;

        boolean takesAll() {
            draft.makeEmpty();
            next = 0;
            told = 0;
            fault = 0;
            for (lines = 0; lines <= TAPE_LIMIT; lines++) {
                if (!readsToken()) {
                    return false;
                }
                if (token == END) {
                    return true;
                }
                if (!takesLine()) {
                    return false;
                }
            }
            return true;
        }

        private boolean refuses(int because) {
            fault = because;
            return false;
        }

        private boolean takesLine() {
            int word = token == WORD ? wordRead() : WORD_COUNT;
            if (word >= WORD_COUNT) {
                return refuses(MISPLACED);
            }
            if (word < KIND_COUNT) {
                return takesGlove(word);
            }
            if ((told >> word & 1) == 1) {
                return refuses(TOLD_TWICE);
            }
            told |= 1 << word;
            switch (word) {
                case FAME: return takesRow(draft.fames, FAME_LIMIT);
                case ROUTE: return takesRoute();
                default: return takesMan();
            }
        }

        private boolean takesGlove(int kind) {
            int g = draft.gloves;
            if (g >= GLOVE_LIMIT) {
                return refuses(TOO_MANY);
            }
            draft.kind[g] = kind;
            if (!takesNumber(DOOR_COUNT - 1)) {
                return false;
            }
            draft.at[g] = number;
            if (!takesNumber(WARM_LIMIT)) {
                return false;
            }
            draft.warm[g] = number;
            draft.gloves++;
            return takesMark();
        }

        private boolean takesRoute() {
            boolean taken = takesRow(draft.route, DOOR_COUNT - 1);
            draft.calls = rowLength;
            return taken;
        }

        private boolean takesMan() {
            if (!takesNumber(DOOR_COUNT - 1)) {
                return false;
            }
            draft.man = number;
            return takesMark();
        }

        /** Numbers as far as the mark; one too many is refused whatever it tells. */
        private boolean takesRow(int[] row, int most) {
            for (rowLength = 0; rowLength <= row.length; rowLength++) {
                if (!readsToken()) {
                    return false;
                }
                if (token == MARK) {
                    return true;
                }
                if (token != NUMBER) {
                    return refuses(MISPLACED);
                }
                if (rowLength == row.length) {
                    return refuses(TOO_MANY);
                }
                if (number > most) {
                    return refuses(OUT_OF_BOUNDS);
                }
                row[rowLength] = number;
            }
            return false;
        }

        private boolean takesNumber(int most) {
            if (!readsToken()) {
                return false;
            }
            if (token != NUMBER) {
                return refuses(MISPLACED);
            }
            return number <= most || refuses(OUT_OF_BOUNDS);
        }

        private boolean takesMark() {
            return readsToken() && (token == MARK || refuses(MISPLACED));
        }

        private boolean readsToken() {
            while (next < tape.length && tape.bytes[next] == ' ') {
                next++;
            }
            start = next;
            if (next >= tape.length) {
                token = END;
                return true;
            }
            int c = tape.bytes[next];
            if (c == ';') {
                token = MARK;
                next++;
                return true;
            }
            if (isLetter(c)) {
                return readsWord();
            }
            return isFigure(c) ? readsNumber() : refuses(NO_TOKEN);
        }

        private boolean readsWord() {
            token = WORD;
            while (next < tape.length && isLetter(tape.bytes[next])) {
                next++;
            }
            return true;
        }

        private boolean readsNumber() {
            token = NUMBER;
            number = 0;
            while (next < tape.length && isFigure(tape.bytes[next])) {
                number = number * 10 + tape.bytes[next] - '0';
                next++;
            }
            return next - start <= 2 || refuses(NO_TOKEN);
        }

        private static boolean isLetter(int c) {
            return c >= 'a' && c <= 'z';
        }

        private static boolean isFigure(int c) {
            return c >= '0' && c <= '9';
        }

        /** WORD_COUNT, if it is none that begins a line. */
        private int wordRead() {
            for (int word = 0; word < WORD_COUNT; word++) {
                if (isSpelled(spellingOf(word))) {
                    return word;
                }
            }
            return WORD_COUNT;
        }

        private boolean isSpelled(String spelling) {
            if (next - start != spelling.length()) {
                return false;
            }
            for (int i = 0; i < spelling.length(); i++) {
                if (tape.bytes[start + i] != spelling.charAt(i)) {
                    return false;
                }
            }
            return true;
        }

        private static String spellingOf(int word) {
            switch (word) {
                case SIGNER: return "signer";
                case DANCER: return "dancer";
                case SHY: return "shy";
                case FAME: return "fame";
                case ROUTE: return "route";
                case MAN: return "man";
                default: return "bold";
            }
        }
    }
}
