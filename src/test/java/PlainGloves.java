import java.math.BigInteger;
import java.util.ArrayList;
import java.util.List;
import java.util.regex.Matcher;
import java.util.regex.Pattern;

/**
 * The document told a second time, in another way and with the whole Java library, so that runs by chance can
 * be held against it: worlds are copied, every trial is tried out, sheets are real rows of the machine.
 */
public final class PlainGloves {
    private static final int BAD = -1, STATE = -2, FULL = -3, NONE = -4;

    private static final class Glove {
        int kind;
        int at;
        int warm;
        boolean paired;
    }

    private static final class World {
        int[] fame = new int[12];
        List<Glove> gloves = new ArrayList<>();
        List<Integer> route = new ArrayList<>();
        List<int[]> seen = new ArrayList<>();
        int man;
        int name;
        int day;

        World copy() {
            World copy = new World();
            copy.fame = fame.clone();
            for (Glove g : gloves) {
                Glove one = new Glove();
                one.kind = g.kind;
                one.at = g.at;
                one.warm = g.warm;
                one.paired = g.paired;
                copy.gloves.add(one);
            }
            copy.route.addAll(route);
            copy.seen.addAll(seen);
            copy.man = man;
            copy.name = name;
            copy.day = day;
            return copy;
        }

        static int far(int a, int b) {
            for (int steps = 0; ; steps++) {
                if ((a + steps) % 12 == b || (b + steps) % 12 == a) {
                    return steps;
                }
            }
        }

        int step(Glove g) {
            int up = g.at == 11 ? 0 : g.at + 1;
            int down = g.at == 0 ? 11 : g.at - 1;
            if (g.kind == 0) {
                return up;
            }
            if (g.kind == 1) {
                return up == 11 ? 0 : up + 1;
            }
            int difference = far(down, man) - far(up, man);
            return (g.kind == 2 ? difference > 0 : difference < 0) ? down : up;
        }

        World day(int door) {
            man = door;
            for (Glove g : gloves) {
                if (g.paired) {
                    g.at = man;
                    g.warm = g.warm == 20 ? 20 : g.warm + 1;
                } else if (g.warm > 0) {
                    g.at = step(g);
                    if (g.at == man) {
                        g.paired = true;
                    } else {
                        name += fame[g.at];
                        name = name > 9999 ? 9999 : name;
                        g.warm--;
                    }
                }
            }
            day++;
            return this;
        }

        World day() {
            return day(route.isEmpty() ? man : route.get(day % route.size()));
        }

        World after(int n) {
            World w = copy();
            for (int i = 0; i < n; i++) {
                w.day();
            }
            return w;
        }

        int met() {
            return (int) gloves.stream().filter(g -> g.paired).count();
        }

        boolean asSeen() {
            return seen.stream().allMatch(s -> after(s[0]).gloves.get(s[1]).at == s[2]);
        }

        World with(int g, int what, int v) {
            World w = copy();
            w.put(g, what, v);
            return w;
        }

        void put(int g, int what, int v) {
            Glove glove = gloves.get(g);
            if (what == 0) {
                glove.kind = v;
            } else if (what == 1) {
                glove.at = v;
            } else {
                glove.warm = v;
            }
        }

        int bits(java.util.function.Predicate<Glove> is) {
            int bits = 0;
            for (int g = 0; g < gloves.size(); g++) {
                bits += is.test(gloves.get(g)) ? 1 << g : 0;
            }
            return bits;
        }
    }

    private World now = new World();
    private final World[] images = new World[2];
    private final Object[] sheets = new Object[4];
    private String tape = "";
    private int fault;
    private int torn;

    private static boolean out(int v, int least, int most) {
        return v < least || v > most;
    }

    private boolean noGlove(int g) {
        return out(g, 0, now.gloves.size() - 1);
    }

    public int feed(int c) {
        if (out(c, 0, 127)) {
            return BAD;
        }
        if (tape.length() == 160) {
            return FULL;
        }
        tape += (char) c;
        return tape.length();
    }

    public int end(int n) {
        if (out(n, 0, tape.length())) {
            return BAD;
        }
        int had = tape.length();
        tape = tape.substring(0, n);
        return had;
    }

    /** A fault with its place, thrown by what reads. */
    private static final class Fault extends RuntimeException {
        private static final long serialVersionUID = 1L;
        final int number;
        final int place;

        Fault(int number, int place) {
            this.number = number;
            this.place = place;
        }
    }

    private static final Pattern TOKEN = Pattern.compile(" *(?:([a-z]+)|([0-9]+)|(;)|(\\z)|.)", Pattern.DOTALL);

    private final class Tokens {
        final Matcher matcher = TOKEN.matcher(tape);
        int place;
        int number;
        /** A name, "0" for a number, ";" or "" for the end. */
        String next() {
            if (!matcher.find()) {
                throw new IllegalStateException();
            }
            for (int group = 1; group <= 4; group++) {
                if (matcher.group(group) != null) {
                    place = matcher.start(group);
                    if (group == 2) {
                        if (matcher.group().trim().length() > 2) {
                            throw new Fault(1, place);
                        }
                        number = Integer.parseInt(matcher.group(2));
                        return "0";
                    }
                    return matcher.group(group);
                }
            }
            throw new Fault(1, matcher.end() - 1);
        }

        int number(int most) {
            if (!next().equals("0")) {
                throw new Fault(2, place);
            }
            if (number > most) {
                throw new Fault(3, place);
            }
            return number;
        }

        void mark() {
            if (!next().equals(";")) {
                throw new Fault(2, place);
            }
        }

        List<Integer> row(int length, int most) {
            List<Integer> row = new ArrayList<>();
            for (String token = next(); !token.equals(";"); token = next()) {
                if (!token.equals("0")) {
                    throw new Fault(2, place);
                }
                if (row.size() == length) {
                    throw new Fault(5, place);
                }
                if (number > most) {
                    throw new Fault(3, place);
                }
                row.add(number);
            }
            return row;
        }
    }

    public int text() {
        fault = 0;
        try {
            World draft = new World();
            int lines = read(draft);
            now = draft;
            images[0] = null;
            images[1] = null;
            return lines;
        } catch (Fault f) {
            fault = f.number;
            return -10 - f.place;
        } finally {
            tape = "";
        }
    }

    private int read(World draft) {
        Tokens tokens = new Tokens();
        List<String> told = new ArrayList<>();
        List<String> kinds = List.of("signer", "dancer", "shy", "bold");
        int lines = 0;
        for (String token = tokens.next(); !token.isEmpty(); token = tokens.next()) {
            if (kinds.contains(token)) {
                if (draft.gloves.size() == 4) {
                    throw new Fault(5, tokens.place);
                }
                Glove g = new Glove();
                g.kind = kinds.indexOf(token);
                g.at = tokens.number(11);
                g.warm = tokens.number(20);
                draft.gloves.add(g);
                tokens.mark();
            } else if (List.of("fame", "route", "man").contains(token)) {
                if (told.contains(token)) {
                    throw new Fault(4, tokens.place);
                }
                told.add(token);
                if (token.equals("fame")) {
                    int d = 0;
                    for (int fame : tokens.row(12, 9)) {
                        draft.fame[d++] = fame;
                    }
                } else if (token.equals("route")) {
                    draft.route = tokens.row(6, 11);
                } else {
                    draft.man = tokens.number(11);
                    tokens.mark();
                }
            } else {
                throw new Fault(2, tokens.place);
            }
            lines++;
        }
        return lines;
    }

    public int fault() {
        return fault;
    }

    public int rule(int what) {
        switch (what) {
            case 0: return now.gloves.size();
            case 1: return now.day;
            case 2: return now.man;
            case 3: return now.name;
            case 4: return now.bits(g -> g.paired);
            case 5: return now.bits(g -> !g.paired && g.warm == 0);
            case 6: return now.route.size();
            default: return BAD;
        }
    }

    public int glove(int g, int what) {
        if (noGlove(g) || out(what, 0, 5)) {
            return BAD;
        }
        Glove one = now.gloves.get(g);
        int[] all = {one.kind, one.at, one.warm, one.paired ? 1 : 0, World.far(one.at, now.man), now.step(one)};
        return all[what];
    }

    public int door(int d, int what) {
        if (out(d, 0, 11) || out(what, 0, 1)) {
            return BAD;
        }
        return what == 0 ? now.fame[d] : now.bits(g -> g.at == d);
    }

    public int stop(int i) {
        return out(i, 0, now.route.size() - 1) ? BAD : now.route.get(i);
    }

    public int alter(int g, int what, int v) {
        if (noGlove(g) || out(what, 0, 2) || out(v, 0, new int[] {3, 11, 20}[what])) {
            return BAD;
        }
        if (what == 1 && now.gloves.get(g).paired) {
            return STATE;
        }
        int was = glove(g, what);
        now.put(g, what, v);
        return was;
    }

    public int fame(int d, int v) {
        if (out(d, 0, 11) || out(v, 0, 9)) {
            return BAD;
        }
        int was = now.fame[d];
        now.fame[d] = v;
        return was;
    }

    public int leave(int g) {
        if (noGlove(g)) {
            return BAD;
        }
        if (!now.gloves.get(g).paired) {
            return STATE;
        }
        now.gloves.get(g).paired = false;
        return now.man;
    }

    public int go(int d) {
        if (out(d, 0, 11)) {
            return BAD;
        }
        int was = now.man;
        now.man = d;
        now.gloves.forEach(g -> g.at = g.paired ? d : g.at);
        return was;
    }

    public int call(int d) {
        if (out(d, 0, 11)) {
            return BAD;
        }
        if (now.route.size() == 6) {
            return FULL;
        }
        now.route.add(d);
        return now.route.size();
    }

    public int cut(int n) {
        if (out(n, 0, now.route.size())) {
            return BAD;
        }
        int had = now.route.size();
        now.route = new ArrayList<>(now.route.subList(0, n));
        return had;
    }

    public int days(int n) {
        if (out(n, 0, 30)) {
            return BAD;
        }
        if (now.day + n >= 1000) {
            return FULL;
        }
        int was = now.name;
        now = now.after(n);
        return now.name - was;
    }

    public int runs(int n, int what) {
        if (out(n, 0, 60) || out(what, 0, 4)) {
            return BAD;
        }
        World then = now.after(n);
        switch (what) {
            case 0: return then.name - now.name;
            case 1: return then.bits(g -> g.paired);
            case 2: return then.bits(g -> !g.paired && g.warm == 0);
            case 3: return then.man;
            default: break;
        }
        for (int i = 0; i <= n; i++) {
            if (now.after(i).met() > now.met()) {
                return i;
            }
        }
        return NONE;
    }

    public int ahead(int g, int n, int what) {
        if (noGlove(g) || out(n, 0, 60) || out(what, 0, 1)) {
            return BAD;
        }
        Glove then = now.after(n).gloves.get(g);
        return what == 0 ? then.at : then.warm;
    }

    public int meets(int g) {
        if (noGlove(g)) {
            return BAD;
        }
        for (int i = 0; i <= 60; i++) {
            if (now.after(i).gloves.get(g).paired) {
                return i;
            }
        }
        return NONE;
    }

    public int place(int i, int n, int what) {
        if (out(i, 0, now.route.size() - 1) || out(n, 0, 60) || out(what, 0, 1)) {
            return BAD;
        }
        int[] met = new int[12];
        for (int d = 0; d < 12; d++) {
            World w = now.copy();
            w.route.set(i, d);
            met[d] = w.after(n).met();
        }
        return first(met, what, 0);
    }

    public int extra(int n, int what) {
        if (out(n, 0, 60) || out(what, 0, 1)) {
            return BAD;
        }
        if (now.route.size() == 6) {
            return FULL;
        }
        int[] met = new int[12];
        for (int d = 0; d < 12; d++) {
            World w = now.copy();
            w.route.add(d);
            met[d] = w.after(n).met();
        }
        return first(met, what, 0);
    }

    /** The first place of the greatest number (what 0), or by how much that is more (what 1). */
    private static int first(int[] row, int what, int less) {
        int most = java.util.Arrays.stream(row).max().getAsInt();
        for (int i = 0; i < row.length; i++) {
            if (row[i] == most) {
                return what == 0 ? i : most - less;
            }
        }
        throw new IllegalStateException();
    }

    public int swap(int n, int what) {
        if (out(n, 0, 60) || out(what, 0, 1)) {
            return BAD;
        }
        int[] names = new int[56];
        for (int i = 0; i < now.route.size(); i++) {
            for (int j = i + 1; j < now.route.size(); j++) {
                World w = now.copy();
                java.util.Collections.swap(w.route, i, j);
                names[10 * i + j] = w.after(n).name;
            }
        }
        return names[first(names, 0, 0)] > now.after(n).name ? first(names, what, now.name) : NONE;
    }

    public int shun(int n, int what) {
        if (out(n, 0, 60) || out(what, 0, 1)) {
            return BAD;
        }
        int[] names = new int[6];
        for (int i = 0; i < now.route.size(); i++) {
            World w = now.copy();
            w.route.remove(i);
            names[i] = w.after(n).name;
        }
        return names[first(names, 0, 0)] > now.after(n).name ? first(names, what, now.name) : NONE;
    }

    public int need(int g, int n) {
        if (noGlove(g) || out(n, 0, 60)) {
            return BAD;
        }
        for (int warm = 0; warm <= 20; warm++) {
            if (now.with(g, 2, warm).after(n).gloves.get(g).paired) {
                return warm;
            }
        }
        return NONE;
    }

    public int kind(int g, int n, int what) {
        if (noGlove(g) || out(n, 0, 60) || out(what, 0, 1)) {
            return BAD;
        }
        int[] names = new int[4];
        for (int kind = 0; kind < 4; kind++) {
            names[kind] = now.with(g, 0, kind).after(n).name;
        }
        return first(names, what, now.name);
    }

    public int drop(int g, int n, int what) {
        if (noGlove(g) || out(n, 0, 60) || out(what, 0, 1)) {
            return BAD;
        }
        if (now.gloves.get(g).paired) {
            return STATE;
        }
        int[] names = new int[12];
        for (int d = 0; d < 12; d++) {
            names[d] = now.with(g, 1, d).after(n).name;
        }
        return first(names, what, now.name);
    }

    private interface Outcome {
        long of(World w);
    }

    /** All ways of staying and going, each by its weight. */
    private long byOdds(int v, int n, int what, Outcome outcome) {
        BigInteger over = BigInteger.ZERO;
        for (int ways = 0; ways < 1 << n; ways++) {
            World w = now.copy();
            long weight = 1;
            for (int i = 0; i < n; i++) {
                boolean stays = (ways >> i) % 2 == 1;
                weight *= stays ? v : 10 - v;
                if (stays) {
                    w.day(w.man);
                } else {
                    w.day();
                }
            }
            over = over.add(BigInteger.valueOf(weight).multiply(BigInteger.valueOf(outcome.of(w))));
        }
        BigInteger under = BigInteger.TEN.pow(n);
        BigInteger common = over.gcd(under);
        return (what == 0 ? over : under).divide(common).longValueExact();
    }

    public long luck(int v, int g, int n, int what) {
        if (out(v, 0, 10) || noGlove(g) || out(n, 0, 8) || out(what, 0, 1)) {
            return BAD;
        }
        return byOdds(v, n, what, w -> w.gloves.get(g).paired ? 1 : 0);
    }

    public long mean(int v, int n, int what) {
        if (out(v, 0, 10) || out(n, 0, 8) || out(what, 0, 1)) {
            return BAD;
        }
        return byOdds(v, n, what, w -> w.name - now.name);
    }

    public int see(int n, int g, int d) {
        if (out(n, 0, 20) || noGlove(g) || out(d, 0, 11)) {
            return BAD;
        }
        if (now.seen.size() == 6) {
            return FULL;
        }
        now.seen.add(new int[] {n, g, d});
        return now.seen.size();
    }

    public int forget(int n) {
        if (out(n, 0, now.seen.size())) {
            return BAD;
        }
        int had = now.seen.size();
        now.seen = new ArrayList<>(now.seen.subList(0, n));
        return had;
    }

    public int kinds(int g) {
        if (noGlove(g)) {
            return BAD;
        }
        int bits = 0;
        for (int kind = 0; kind < 4; kind++) {
            bits += now.with(g, 0, kind).asSeen() ? 1 << kind : 0;
        }
        return bits;
    }

    public int doors(int g) {
        if (noGlove(g)) {
            return BAD;
        }
        if (now.gloves.get(g).paired) {
            return STATE;
        }
        int bits = 0;
        for (int d = 0; d < 12; d++) {
            bits += now.with(g, 1, d).asSeen() ? 1 << d : 0;
        }
        return bits;
    }

    public int ask(int g, int what) {
        if (noGlove(g) || out(what, 0, 1)) {
            return BAD;
        }
        int kinds = kinds(g);
        int best = NONE;
        int fewest = Integer.bitCount(kinds);
        for (int n = 0; n <= 20; n++) {
            int[] here = new int[12];
            for (int kind = 0; kind < 4; kind++) {
                if ((kinds & 1 << kind) != 0) {
                    here[now.with(g, 0, kind).after(n).gloves.get(g).at]++;
                }
            }
            int worst = first(here, 1, 0);
            if (worst < fewest) {
                fewest = worst;
                best = n;
            }
        }
        return best == NONE ? NONE : what == 0 ? best : fewest;
    }

    public int drift(int seed, int n, int what) {
        if (out(n, 1, 60) || out(what, 0, 1)) {
            return BAD;
        }
        BigInteger state = BigInteger.valueOf(seed);
        World w = now.copy();
        for (int i = 0; i < n; i++) {
            state = state.multiply(BigInteger.valueOf(1103515245)).add(BigInteger.valueOf(12345));
            int got = 0;
            for (int bit = 16; bit <= 30; bit++) {
                got += state.testBit(bit) ? 1 << bit - 16 : 0;
            }
            w.day(got % 12);
        }
        return what == 0 ? w.name - now.name : w.met();
    }

    public int keep(int k) {
        if (out(k, 0, 1)) {
            return BAD;
        }
        int was = images[k] == null ? 0 : 1;
        images[k] = now.copy();
        return was;
    }

    public int back(int k) {
        if (out(k, 0, 1)) {
            return BAD;
        }
        if (images[k] == null) {
            return STATE;
        }
        now = images[k].copy();
        return now.day;
    }

    public int sheet(int k, int lane, int n) {
        if (out(k, 0, 3) || out(lane, 0, 2) || n > 40) {
            return BAD;
        }
        try {
            sheets[k] = lane == 0 ? new byte[n] : lane == 1 ? new short[n] : new int[n];
            return 1;
        } catch (NegativeArraySizeException e) {
            return -14;
        }
    }

    public int lay(int k, int i, int v) {
        if (out(k, 0, 3)) {
            return BAD;
        }
        try {
            if (sheets[k] instanceof byte[]) {
                ((byte[]) sheets[k])[i] = (byte) v;
            } else if (sheets[k] instanceof short[]) {
                ((short[]) sheets[k])[i] = (short) v;
            } else {
                ((int[]) sheets[k])[i] = v;
            }
            return 1;
        } catch (NullPointerException e) {
            return -11;
        } catch (ArrayIndexOutOfBoundsException e) {
            return -12;
        }
    }

    public int read(int k, int lane, int f, int n) {
        if (out(k, 0, 3) || out(lane, 0, 2) || out(n, 0, 20)) {
            return BAD;
        }
        World before = now.copy();
        int came = 0;
        int found = 0;
        try {
            for (int i = 0; i < n; i++) {
                byte[] bytes = lane == 0 ? (byte[]) sheets[k] : null;
                short[] shorts = lane == 1 ? (short[]) sheets[k] : null;
                int[] ints = lane == 2 ? (int[]) sheets[k] : null;
                int c = f + 2 * i;
                int g = lane == 0 ? bytes[c] : lane == 1 ? shorts[c] : ints[c];
                int d = lane == 0 ? bytes[c + 1] : lane == 1 ? shorts[c + 1] : ints[c + 1];
                if (alter(g, 1, d) < 0) {
                    now = before;
                    return -20 - i;
                }
                came++;
            }
        } catch (NullPointerException e) {
            found = 1;
        } catch (ArrayIndexOutOfBoundsException e) {
            found = 2;
        } catch (ClassCastException e) {
            found = 3;
        }
        torn = found;
        return came;
    }

    public int torn() {
        return torn;
    }

    public int count(int what) {
        switch (what) {
            case 0: return now.seen.size();
            case 1: return (images[0] == null ? 0 : 1) + (images[1] == null ? 0 : 1);
            case 2: return tape.length();
            case 3: return sheets[0] == null ? NONE : java.lang.reflect.Array.getLength(sheets[0]);
            case 4: return now.gloves.stream().mapToInt(g -> g.warm).sum();
            case 5: return java.util.Arrays.stream(now.fame).sum();
            default: return BAD;
        }
    }
}
