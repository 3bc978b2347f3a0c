import java.util.ArrayList;
import java.util.List;

/**
 * Long runs of made-up calls, each answered by the program and by a second, plain reading of the document
 * that shares nothing with it: bodies are real methods, SHEETS real arrays, searches try all there is.
 */
public final class OracleTest {
    private static final int RUNS = 1500;
    /** A copy of which all cells are looked at, with fault() and trace() behind each. */
    private static final int MOST_AT_ONCE = 190;
    private static int wrong = 0;
    private static long seed = 20261119L;

    public static void main(String[] args) {
        for (int run = 0; run < RUNS && wrong < 20; run++) {
            oneRun(run);
        }
        System.out.println(wrong == 0 ? "program and oracle agree" : wrong + " answers are not as due");
        if (wrong != 0) {
            System.exit(1);
        }
    }

    /** One of 0 .. n - 1, the same ones each time the test runs. */
    private static int any(int n) {
        seed = seed * 6364136223846793005L + 1442695040888963407L;
        return (int) ((seed >>> 33) % n);
    }

    /** Mostly one of least .. most, now and then one beyond. */
    private static int near(int least, int most) {
        int pick = any(40);
        if (pick == 0) {
            return least - 1;
        }
        if (pick == 1) {
            return most + 1;
        }
        if (pick == 2) {
            int[] far = {Integer.MIN_VALUE, Integer.MAX_VALUE, -100, 100, 256};
            return far[any(far.length)];
        }
        return least + any(most - least + 1);
    }

    private static void oneRun(int run) {
        Birds x = new Birds();
        Oracle o = new Oracle();
        while (x.calls() + MOST_AT_ONCE <= Birds.MOST_CALLS && wrong < 20) {
            int pick = any(60);
            if (pick < 2 || x.calls() == 0) {
                tellMine(x, o, run);
            } else if (pick < 8) {
                tellPairs(x, o, run);
            } else {
                call(x, o, run, 1 + any(33));
            }
        }
    }

    private static void answered(int run, String call, long got, long want) {
        if (got != want) {
            wrong++;
            System.out.println("run " + run + ": " + call + " answered " + got + ", due is " + want);
        }
    }

    private static void check(int run, String call, long got, long want, Birds x, Oracle o) {
        answered(run, call, got, want);
        if (x.fault() != o.fault || x.trace() != o.trace) {
            wrong++;
            System.out.println("run " + run + ": behind " + call + " fault or trace is not as due");
        }
    }

    private static void set(Birds x, Oracle o, int run, int k, int lane, int[] row) {
        check(run, "sheet", x.sheet(k, lane, row.length), o.sheet(k, lane, row.length), x, o);
        for (int i = 0; i < row.length; i++) {
            answered(run, "put", x.put(k, i, row[i]), o.put(k, i, row[i]));
        }
    }

    private static void tellMine(Birds x, Oracle o, int run) {
        StringBuilder text = new StringBuilder("m");
        int words = 1 + any(4);
        for (int w = 0; w < words; w++) {
            text.append(any(10));
        }
        int galleries = 2 + any(5);
        for (int g = 0; g < galleries; g++) {
            text.append(';').append("gnb".charAt(any(3))).append(any(10)).append(1 + any(9)).append(any(4) == 0 ? 0 : 1);
        }
        if (any(4) == 0) {
            text.setCharAt(any(text.length()), "m0129gnb;x:/".charAt(any(12)));
        }
        if (any(6) == 0) {
            text.setLength(any(text.length() + 1));
        }
        int lane = any(3);
        int from = any(3);
        int[] row = new int[from + text.length() + any(2)];
        for (int i = 0; i < text.length(); i++) {
            row[from + i] = text.charAt(i);
        }
        set(x, o, run, 0, lane, row);
        int n = text.length();
        check(run, "mine " + text, x.mine(0, lane, from, n), o.mine(0, lane, from, n), x, o);
    }

    private static void tellPairs(Birds x, Oracle o, int run) {
        int pairs = any(7);
        int from = any(2);
        int[] row = new int[from + 2 * pairs];
        for (int b = 0; b < pairs; b++) {
            row[from + 2 * b] = o.galleries() == 0 ? 0 : any(o.galleries());
            row[from + 2 * b + 1] = o.bads.length == 0 ? 0 : any(o.bads.length);
            if (any(50) == 0) {
                row[from + 2 * b] = near(0, 5);
                row[from + 2 * b + 1] = near(0, 3);
            }
        }
        int lane = any(3);
        set(x, o, run, 1, lane, row);
        for (int what = -1; what < 17; what++) {
            check(run, "shift what " + what, x.shift(1, lane, from, pairs, what),
                    o.shift(1, lane, from, pairs, what), x, o);
        }
        for (int k = 0; k < 6; k++) {
            check(run, "order " + k, x.order(1, lane, from, pairs, k), o.order(1, lane, from, pairs, k), x, o);
        }
        for (int what = 0; what < 2; what++) {
            check(run, "shut what " + what, x.shut(1, lane, from, pairs, what), o.shut(1, lane, from, pairs, what), x, o);
        }
        tellFouls(x, o, run);
    }

    private static void tellFouls(Birds x, Oracle o, int run) {
        if (o.galleries() == 0) {
            return;
        }
        Oracle.Air then = o.air.another();
        then.breathe(o, any(o.galleries()), o.bads[any(o.bads.length)], o.open);
        set(x, o, run, 2, 2, then.foul);
        for (int k = -1; k < 8; k++) {
            check(run, "found " + k, x.found(2, 2, 0, k), o.found(2, 2, 0, k), x, o);
        }
    }

    private static void call(Birds x, Oracle o, int run, int promise) {
        int g = near(0, 5);
        int k = near(0, 3);
        int lane = any(5) == 0 ? near(0, 2) : o.laneOf(k);
        int i = near(0, 8);
        int n = near(0, 6);
        int v = near(0, 40);
        switch (promise) {
            case 2: check(run, "mine", x.mine(k, lane, i, n), o.mine(k, lane, i, n), x, o); break;
            case 3:
                for (int what = -1; what < 7; what++) {
                    check(run, "ofGallery " + what, x.ofGallery(g, what), o.ofGallery(g, what), x, o);
                }
                break;
            case 4: check(run, "bad", x.bad(k), o.bad(k), x, o); break;
            case 5: check(run, "foul", x.foul(g, v), o.foul(g, v), x, o); break;
            case 6:
                v = near(1, 9);
                check(run, "breed", x.breed(g, v), o.breed(g, v), x, o);
                break;
            case 7:
                v = near(0, 1);
                check(run, "door", x.door(g, v), o.door(g, v), x, o);
                break;
            case 8: check(run, "say", x.say(g, k), o.say(g, k), x, o); break;
            case 9:
                n = any(2) == 0 ? near(1, 30) : 1;
                check(run, "hush", x.hush(n), o.hush(n), x, o);
                break;
            case 10: check(run, "blow", x.blow(g), o.blow(g), x, o); break;
            case 11: check(run, "shift", x.shift(k, lane, i, n, 0), o.shift(k, lane, i, n, 0), x, o); break;
            case 12: check(run, "order", x.order(k, lane, i, n, g), o.order(k, lane, i, n, g), x, o); break;
            case 13: check(run, "shut", x.shut(k, lane, i, n, 0), o.shut(k, lane, i, n, 0), x, o); break;
            case 14: check(run, "rests", x.rests(), o.rests(), x, o); break;
            case 15: check(run, "clears", x.clears(g, v), o.clears(g, v), x, o); break;
            case 16:
                for (int seat = -2; seat < 7; seat++) {
                    check(run, "perches " + seat, x.perches(seat), o.perches(seat), x, o);
                }
                break;
            case 17: check(run, "found", x.found(k, lane, i, g), o.found(k, lane, i, g), x, o); break;
            default: callMore(x, o, run, promise);
        }
    }

    private static void callMore(Birds x, Oracle o, int run, int promise) {
        int g = near(0, 5);
        int k = near(0, 3);
        int other = near(0, 3);
        int i = near(0, 8);
        int j = near(0, 8);
        int v = near(0, 20);
        int is = near(0, 1);
        switch (promise) {
            case 18: check(run, "reading", x.reading(g, v, is), o.reading(g, v, is), x, o); break;
            case 19: check(run, "back", x.back(k), o.back(k), x, o); break;
            case 20: check(run, "strengths", x.strengths(g), o.strengths(g), x, o); break;
            case 21: check(run, "kinds", x.kinds(g), o.kinds(g), x, o); break;
            case 22:
                check(run, "odds 0", x.odds(g, 0), o.odds(g, 0), x, o);
                check(run, "odds 1", x.odds(g, 1), o.odds(g, 1), x, o);
                check(run, "odds any", x.odds(g, is), o.odds(g, is), x, o);
                break;
            case 23:
                int lane = near(0, 2);
                int n = any(4) == 0 ? near(0, 60) : near(0, 12);
                check(run, "sheet", x.sheet(k, lane, n), o.sheet(k, lane, n), x, o);
                break;
            case 24:
                if (any(3) == 0) {
                    check(run, "lose", x.lose(k), o.lose(k), x, o);
                }
                break;
            case 25:
                v = any(2) == 0 ? any(2) * 70000 - any(70000) : v;
                check(run, "put", x.put(k, i, v), o.put(k, i, v), x, o);
                break;
            case 26:
                int as = any(3) == 0 ? near(0, 2) : o.laneOf(k);
                check(run, "cell", x.cell(k, i, as), o.cell(k, i, as), x, o);
                break;
            case 27:
                other = any(2) == 0 ? k : other;
                int cells = near(0, 5);
                check(run, "copy", x.copy(k, i, other, j, cells), o.copy(k, i, other, j, cells), x, o);
                for (int c = 0; c < 60; c++) {
                    check(run, "copied", x.cell(other, c, o.laneOf(other)), o.cell(other, c, o.laneOf(other)), x, o);
                }
                break;
            case 28: check(run, "tell", x.tell(g), o.tell(g), x, o); break;
            case 29: check(run, "sign", x.sign(g), o.sign(g), x, o); break;
            case 30:
                int kind = near(0, 2);
                check(run, "as", x.as(g, kind), o.as(g, kind), x, o);
                break;
            default:
                for (int what = -1; what < 6; what++) {
                    check(run, "many " + what, x.many(what), o.many(what), x, o);
                }
        }
    }
}

/** The document once more, as plainly as it can be said. */
final class Oracle {
    private static final int UNKNOWN = -1, OUTSIDE = -2, STATE = -3, FULL = -4, NONE = -9;
    private static final long LOST = Long.MIN_VALUE;
    private static final String TEXT = "m[0-9]{1,4}(;[gnb][0-9][1-9][01]){2,6}";

    final Object[] sheets = new Object[4];
    Air air = new Air(new Grey[0]);
    boolean[] open = new boolean[0];
    int[] bads = new int[0];
    List<int[]> readings = new ArrayList<>();
    int breaths;
    int trace;
    int fault;

    interface Signing {
        default int signed(Oracle o, int g) {
            o.leave(4);
            return g;
        }
    }

    static class Grey implements Signing {
        int strength;

        int bears() {
            return strength;
        }

        int told(Oracle o) {
            o.leave(1);
            return strength;
        }
    }

    static class Green extends Grey {
        @Override int bears() {
            return super.bears() - 1;
        }

        @Override int told(Oracle o) {
            o.leave(2);
            return super.told(o) + 100;
        }
    }

    static class Bright extends Green {
        @Override int bears() {
            return strength + strength;
        }

        @Override int told(Oracle o) {
            o.leave(3);
            int green = super.told(o);
            o.leave(1);
            return green + strength;
        }

        @Override public int signed(Oracle o, int g) {
            o.leave(5);
            return 50;
        }
    }

    /** FOUL of all GALLERIES, their birds, and which are DOWN. */
    static final class Air {
        int[] foul;
        Grey[] birds;
        boolean[] down;

        Air(Grey[] birds) {
            this.birds = birds;
            foul = new int[birds.length];
            down = new boolean[birds.length];
        }

        Air another() {
            Air a = new Air(birds.clone());
            a.foul = foul.clone();
            a.down = down.clone();
            return a;
        }

        boolean pass(boolean[] doors) {
            boolean passed = false;
            for (int d = 0; d < doors.length; d++) {
                if (doors[d] && foul[d] > foul[d + 1] + 1) {
                    foul[d]--;
                    foul[d + 1]++;
                    passed = true;
                } else if (doors[d] && foul[d + 1] > foul[d] + 1) {
                    foul[d]++;
                    foul[d + 1]--;
                    passed = true;
                }
            }
            return passed;
        }

        List<Integer> hushed(boolean[] doors) {
            pass(doors);
            List<Integer> drop = new ArrayList<>();
            for (int g = 0; g < birds.length; g++) {
                if (!down[g] && foul[g] > birds[g].bears()) {
                    down[g] = true;
                    drop.add(g);
                }
            }
            return drop;
        }

        List<Integer> breathe(Oracle o, int g, int bad, boolean[] doors) {
            int becomes = foul[g] + bad - 4;
            foul[g] = becomes < 0 ? 0 : becomes > 40 ? 40 : becomes;
            return hushed(doors);
        }
    }

    void leave(int body) {
        trace = trace * 31 + body;
    }

    int galleries() {
        return air.foul.length;
    }

    private boolean noGallery(int g) {
        return g < 0 || g >= galleries();
    }

    private static boolean not(int v, int least, int most) {
        return v < least || v > most;
    }

    private static int set(List<Integer> numbers) {
        int bits = 0;
        for (int k : numbers) {
            bits += (bits >> k) % 2 == 0 ? 1 << k : 0;
        }
        return bits;
    }

    private int machine(int f) {
        fault = f;
        return -10 - f;
    }

    int laneOf(int k) {
        if (k < 0 || k > 3 || sheets[k] == null) {
            return 0;
        }
        return sheets[k] instanceof byte[] ? 0 : sheets[k] instanceof short[] ? 1 : 2;
    }

    private int length(int k) {
        Object s = sheets[k];
        return s instanceof byte[] b ? b.length : s instanceof short[] h ? h.length : ((int[]) s).length;
    }

    private int at(int k, int i) {
        Object s = sheets[k];
        return s instanceof byte[] b ? b[i] : s instanceof short[] h ? h[i] : ((int[]) s)[i];
    }

    private void store(int k, int i, int v) {
        if (sheets[k] instanceof byte[] b) {
            b[i] = (byte) v;
        } else if (sheets[k] instanceof short[] h) {
            h[i] = (short) v;
        } else {
            ((int[]) sheets[k])[i] = v;
        }
    }

    /** CAST, NULL, SIZE, INDEX in the order in which the calls tell them; 0: none of them. */
    private int rowFault(int k, int lane, int i, long n) {
        if (sheets[k] != null && laneOf(k) != lane) {
            return machine(2);
        }
        if (sheets[k] == null) {
            return machine(1);
        }
        if (n < 0) {
            return machine(4);
        }
        return i < 0 || i > length(k) || i + n > length(k) ? machine(3) : 0;
    }

    int mine(int k, int lane, int i, int n) {
        fault = 0;
        if (not(k, 0, 3)) {
            return UNKNOWN;
        }
        if (not(lane, 0, 2)) {
            return OUTSIDE;
        }
        int f = rowFault(k, lane, i, n);
        if (f != 0) {
            return f;
        }
        StringBuilder codes = new StringBuilder();
        for (int c = 0; c < n; c++) {
            int code = at(k, i + c);
            codes.append(code < 0 || code > 127 ? '?' : (char) code);
        }
        String text = codes.toString();
        if (!text.matches(TEXT)) {
            return -100 - longestStart(text);
        }
        make(text);
        return galleries();
    }

    /** How many codes from the first one on can be the start of a TEXT. */
    private static int longestStart(String text) {
        for (int n = text.length(); n > 0; n--) {
            if (canGoOn(text.substring(0, n))) {
                return n;
            }
        }
        return 0;
    }

    private static boolean canGoOn(String start) {
        String rest = "m0;g010;g010";
        for (int cut = 0; cut <= rest.length(); cut++) {
            if ((start + rest.substring(cut)).matches(TEXT)) {
                return true;
            }
        }
        return false;
    }

    private void make(String text) {
        String[] parts = text.split(";");
        bads = new int[parts[0].length() - 1];
        for (int w = 0; w < bads.length; w++) {
            bads[w] = parts[0].charAt(w + 1) - 48;
        }
        Grey[] birds = new Grey[parts.length - 1];
        open = new boolean[birds.length - 1];
        air = new Air(birds);
        for (int g = 0; g < birds.length; g++) {
            String p = parts[g + 1];
            birds[g] = kind("gnb".indexOf(p.charAt(0)), p.charAt(2) - 48);
            air.foul[g] = p.charAt(1) - 48;
            if (g < open.length) {
                open[g] = p.charAt(3) == '1';
            }
        }
        breaths = 0;
        readings.clear();
    }

    private static Grey kind(int kind, int strength) {
        Grey bird = kind == 0 ? new Grey() : kind == 1 ? new Green() : new Bright();
        bird.strength = strength;
        return bird;
    }

    private static int kindOf(Grey bird) {
        return bird instanceof Bright ? 2 : bird instanceof Green ? 1 : 0;
    }

    int ofGallery(int g, int what) {
        if (noGallery(g)) {
            return UNKNOWN;
        }
        if (not(what, 0, 5)) {
            return OUTSIDE;
        }
        int isOpen = g == open.length ? NONE : open[g] ? 1 : 0;
        int[] all = {kindOf(air.birds[g]), air.foul[g], air.birds[g].strength, air.birds[g].bears(),
            air.down[g] ? 1 : 0, isOpen};
        return all[what];
    }

    int bad(int w) {
        return not(w, 0, bads.length - 1) ? UNKNOWN : bads[w];
    }

    int foul(int g, int v) {
        if (noGallery(g)) {
            return UNKNOWN;
        }
        if (not(v, 0, 40)) {
            return OUTSIDE;
        }
        int was = air.foul[g];
        air.foul[g] = v;
        return was;
    }

    int breed(int g, int v) {
        if (noGallery(g)) {
            return UNKNOWN;
        }
        if (not(v, 1, 9)) {
            return OUTSIDE;
        }
        int was = air.birds[g].strength;
        air.birds[g].strength = v;
        return was;
    }

    int door(int k, int is) {
        if (not(k, 0, open.length - 1)) {
            return UNKNOWN;
        }
        if (not(is, 0, 1)) {
            return OUTSIDE;
        }
        int was = open[k] ? 1 : 0;
        open[k] = is == 1;
        return was;
    }

    int say(int g, int w) {
        if (noGallery(g) || not(w, 0, bads.length - 1)) {
            return UNKNOWN;
        }
        breaths++;
        return set(air.breathe(this, g, bads[w], open));
    }

    int hush(int n) {
        if (not(n, 1, 30)) {
            return OUTSIDE;
        }
        if (galleries() == 0) {
            return STATE;
        }
        List<Integer> drop = new ArrayList<>();
        for (int b = 0; b < n; b++) {
            breaths++;
            drop.addAll(air.hushed(open));
        }
        return set(drop);
    }

    int blow(int g) {
        if (noGallery(g)) {
            return UNKNOWN;
        }
        if (!air.down[g] || air.foul[g] > air.birds[g].bears()) {
            return STATE;
        }
        air.down[g] = false;
        return downs(air).size();
    }

    private static List<Integer> downs(Air of) {
        List<Integer> all = new ArrayList<>();
        for (int g = 0; g < of.down.length; g++) {
            if (of.down[g]) {
                all.add(g);
            }
        }
        return all;
    }

    /** 0, or why n pairs are refused. */
    private int pairsRefused(int k, int lane, int i, int n) {
        int f = rowFault(k, lane, i, 2L * n);
        if (f != 0) {
            return f;
        }
        if (galleries() == 0) {
            return STATE;
        }
        for (int b = 0; b < n; b++) {
            if (noGallery(at(k, i + 2 * b)) || not(at(k, i + 2 * b + 1), 0, bads.length - 1)) {
                return UNKNOWN;
            }
        }
        return 0;
    }

    private List<int[]> pairs(int k, int i, int n) {
        List<int[]> all = new ArrayList<>();
        for (int b = 0; b < n; b++) {
            all.add(new int[] {at(k, i + 2 * b), bads[at(k, i + 2 * b + 1)]});
        }
        return all;
    }

    int shift(int k, int lane, int i, int n, int what) {
        fault = 0;
        if (not(k, 0, 3)) {
            return UNKNOWN;
        }
        if (not(lane, 0, 2) || not(n, 0, 20) || not(what, 0, 3) && not(what, 10, 15)) {
            return OUTSIDE;
        }
        int refused = pairsRefused(k, lane, i, n);
        if (refused != 0) {
            return refused;
        }
        Air then = air.another();
        List<Integer> wrong = new ArrayList<>();
        int drops = 0;
        for (int[] pair : pairs(k, i, n)) {
            int drop = then.breathe(this, pair[0], pair[1], open).size();
            drops += drop;
            wrong.add(drop);
        }
        int first = NONE;
        for (int b = n - 1; b >= 0; b--) {
            first = wrong.get(b) > 0 ? b : first;
        }
        int sum = 0;
        for (int f : then.foul) {
            sum += f;
        }
        if (what >= 10) {
            return noGallery(what - 10) ? NONE : then.foul[what - 10];
        }
        return new int[] {drops, first, set(downs(then)), sum}[what];
    }

    /** All rows of 0 .. n - 1, the first one first. */
    private static List<List<Integer>> rows(int n) {
        List<List<Integer>> all = new ArrayList<>();
        all.add(new ArrayList<>());
        for (int length = 0; length < n; length++) {
            List<List<Integer>> longer = new ArrayList<>();
            for (List<Integer> row : all) {
                for (int next = 0; next < n; next++) {
                    if (!row.contains(next)) {
                        List<Integer> more = new ArrayList<>(row);
                        more.add(next);
                        longer.add(more);
                    }
                }
            }
            all = longer;
        }
        return all;
    }

    int order(int k, int lane, int i, int n, int place) {
        fault = 0;
        if (not(k, 0, 3)) {
            return UNKNOWN;
        }
        if (not(lane, 0, 2) || not(n, 0, 6) || not(place, 0, 5)) {
            return OUTSIDE;
        }
        int refused = pairsRefused(k, lane, i, n);
        if (refused != 0) {
            return refused;
        }
        List<int[]> told = pairs(k, i, n);
        for (List<Integer> row : rows(n)) {
            Air then = air.another();
            boolean quiet = true;
            for (int at : row) {
                quiet &= then.breathe(this, told.get(at)[0], told.get(at)[1], open).isEmpty();
            }
            if (quiet) {
                return place < n ? row.get(place) : NONE;
            }
        }
        return NONE;
    }

    int shut(int k, int lane, int i, int n, int what) {
        fault = 0;
        if (not(k, 0, 3)) {
            return UNKNOWN;
        }
        if (not(lane, 0, 2) || not(n, 0, 20) || not(what, 0, 1)) {
            return OUTSIDE;
        }
        int refused = pairsRefused(k, lane, i, n);
        if (refused != 0) {
            return refused;
        }
        int best = Integer.MAX_VALUE;
        for (int doors = 0; doors < 1 << open.length; doors++) {
            boolean[] asSet = new boolean[open.length];
            int count = 0;
            for (int d = 0; d < asSet.length; d++) {
                asSet[d] = (doors & 1 << d) != 0;
                count += asSet[d] ? 1 : 0;
            }
            Air then = air.another();
            int drops = 0;
            for (int[] pair : pairs(k, i, n)) {
                drops += then.breathe(this, pair[0], pair[1], asSet).size();
            }
            best = Math.min(best, drops * 10000 + count * 100 + doors);
        }
        return what == 0 ? best % 100 : best / 10000;
    }

    int rests() {
        if (galleries() == 0) {
            return STATE;
        }
        for (int n = 0; n <= 60; n++) {
            Air then = air.another();
            for (int b = 0; b < n; b++) {
                then.hushed(open);
            }
            if (!then.pass(open)) {
                return n;
            }
        }
        return NONE;
    }

    int clears(int g, int v) {
        if (noGallery(g)) {
            return UNKNOWN;
        }
        if (not(v, 0, 40)) {
            return OUTSIDE;
        }
        for (int n = 0; n <= 60; n++) {
            Air then = air.another();
            for (int b = 0; b < n; b++) {
                then.hushed(open);
            }
            if (then.foul[g] <= v) {
                return n;
            }
        }
        return NONE;
    }

    int perches(int k) {
        if (not(k, -1, 5)) {
            return OUTSIDE;
        }
        if (galleries() == 0) {
            return STATE;
        }
        int most = -1;
        List<Integer> best = null;
        for (List<Integer> row : rows(galleries())) {
            int well = 0;
            for (int g = 0; g < row.size(); g++) {
                well += air.foul[g] <= air.birds[row.get(g)].bears() ? 1 : 0;
            }
            if (well > most) {
                most = well;
                best = row;
            }
        }
        return k == -1 ? most : k < galleries() ? best.get(k) : NONE;
    }

    int found(int k, int lane, int i, int which) {
        fault = 0;
        if (not(k, 0, 3)) {
            return UNKNOWN;
        }
        if (not(lane, 0, 2) || not(which, -1, 23)) {
            return OUTSIDE;
        }
        if (galleries() == 0) {
            return STATE;
        }
        int f = rowFault(k, lane, i, galleries());
        if (f != 0) {
            return f;
        }
        List<Integer> all = new ArrayList<>();
        for (int pair = 0; pair < 60; pair++) {
            if (pair / 10 < galleries() && pair % 10 < bads.length) {
                Air then = air.another();
                then.breathe(this, pair / 10, bads[pair % 10], open);
                boolean same = true;
                for (int g = 0; g < galleries(); g++) {
                    same &= then.foul[g] == at(k, i + g);
                }
                if (same) {
                    all.add(pair);
                }
            }
        }
        return which == -1 ? all.size() : which < all.size() ? all.get(which) : NONE;
    }

    int reading(int g, int foul, int dropped) {
        if (noGallery(g)) {
            return UNKNOWN;
        }
        if (not(foul, 0, 40) || not(dropped, 0, 1)) {
            return OUTSIDE;
        }
        if (readings.size() == 8) {
            return FULL;
        }
        readings.add(new int[] {g, foul, dropped});
        return readings.size() - 1;
    }

    int back(int k) {
        if (not(k, 0, readings.size())) {
            return OUTSIDE;
        }
        readings = new ArrayList<>(readings.subList(0, readings.size() - k));
        return readings.size();
    }

    /** Whether all READINGS are so with another bird in a GALLERY. */
    private boolean soWith(int g, Grey bird) {
        Grey[] birds = air.birds.clone();
        birds[g] = bird;
        for (int[] r : readings) {
            if ((r[1] > birds[r[0]].bears()) != (r[2] == 1)) {
                return false;
            }
        }
        return true;
    }

    int strengths(int g) {
        if (noGallery(g)) {
            return UNKNOWN;
        }
        List<Integer> all = new ArrayList<>();
        for (int s = 1; s <= 9; s++) {
            if (soWith(g, kind(kindOf(air.birds[g]), s))) {
                all.add(s);
            }
        }
        return set(all);
    }

    int kinds(int g) {
        if (noGallery(g)) {
            return UNKNOWN;
        }
        List<Integer> all = new ArrayList<>();
        for (int kind = 0; kind <= 2; kind++) {
            if (soWith(g, kind(kind, air.birds[g].strength))) {
                all.add(kind);
            }
        }
        return set(all);
    }

    long odds(int g, int which) {
        if (noGallery(g) || not(which, 0, 1)) {
            return LOST;
        }
        int upper = 0;
        int lower = 0;
        for (int in = 0; in < galleries(); in++) {
            for (int bad : bads) {
                Air then = air.another();
                then.breathe(this, in, bad, open);
                upper += then.down[g] ? 1 : 0;
                lower++;
            }
        }
        for (int d = 2; d <= lower; d++) {
            while (upper % d == 0 && lower % d == 0) {
                upper /= d;
                lower /= d;
            }
        }
        return which == 0 ? upper : lower;
    }

    int sheet(int k, int lane, int n) {
        fault = 0;
        if (not(k, 0, 3)) {
            return UNKNOWN;
        }
        if (not(lane, 0, 2) || n > 60) {
            return OUTSIDE;
        }
        if (n < 0) {
            return machine(4);
        }
        sheets[k] = lane == 0 ? new byte[n] : lane == 1 ? new short[n] : new int[n];
        return 1;
    }

    int lose(int k) {
        if (not(k, 0, 3)) {
            return UNKNOWN;
        }
        int had = sheets[k] == null ? 0 : 1;
        sheets[k] = null;
        return had;
    }

    int put(int k, int i, int v) {
        fault = 0;
        if (not(k, 0, 3)) {
            return UNKNOWN;
        }
        int f = rowFault(k, laneOf(k), i, 1);
        if (f != 0) {
            return f;
        }
        store(k, i, v);
        return 1;
    }

    long cell(int k, int i, int lane) {
        fault = 0;
        if (not(k, 0, 3) || not(lane, 0, 2) || rowFault(k, lane, i, 1) != 0) {
            return LOST;
        }
        return at(k, i);
    }

    int copy(int k, int i, int other, int j, int n) {
        fault = 0;
        if (not(k, 0, 3) || not(other, 0, 3)) {
            return UNKNOWN;
        }
        if (sheets[k] == null || sheets[other] == null) {
            return machine(1);
        }
        if (laneOf(k) != laneOf(other)) {
            return machine(2);
        }
        if (i < 0 || j < 0 || n < 0 || (long) i + n > length(k) || (long) j + n > length(other)) {
            return machine(3);
        }
        int[] were = new int[n];
        for (int c = 0; c < n; c++) {
            were[c] = at(k, i + c);
        }
        for (int c = 0; c < n; c++) {
            store(other, j + c, were[c]);
        }
        return n;
    }

    int tell(int g) {
        return noGallery(g) ? UNKNOWN : air.birds[g].told(this);
    }

    int sign(int g) {
        return noGallery(g) ? UNKNOWN : air.birds[g].signed(this, g);
    }

    int as(int g, int kind) {
        fault = 0;
        if (noGallery(g)) {
            return UNKNOWN;
        }
        if (not(kind, 0, 2)) {
            return OUTSIDE;
        }
        Grey bird = air.birds[g];
        boolean is = kind == 0 || kind == 1 && bird instanceof Green || kind == 2 && bird instanceof Bright;
        return is ? 1 : machine(2);
    }

    int many(int what) {
        if (not(what, 0, 4)) {
            return OUTSIDE;
        }
        return new int[] {galleries(), bads.length, breaths, downs(air).size(), readings.size()}[what];
    }
}
