/** The program behind a count of its calls: nothing is promised about an object after its 512th call. */
final class Birds {
    static final int MOST_CALLS = 512;
    private static final long LOST = Long.MIN_VALUE;

    private final GalleryBirds program = new GalleryBirds();
    private int calls = 0;

    int calls() {
        return calls;
    }

    private GalleryBirds next() {
        calls++;
        if (calls > MOST_CALLS) {
            throw new IllegalStateException("a test asks an object more than " + MOST_CALLS + " times");
        }
        return program;
    }

    // what tests tell

    /** A new object with a mine by a text on sheet 0. */
    static Birds with(String text) {
        Birds x = new Birds();
        if (x.mineBy(text) < 0) {
            throw new IllegalArgumentException("a test's text is not taken: " + text);
        }
        return x;
    }

    int mineBy(String text) {
        codes(0, 0, text);
        return mine(0, 0, 0, text.length());
    }

    void codes(int k, int lane, String text) {
        sheet(k, lane, text.length());
        for (int i = 0; i < text.length(); i++) {
            put(k, i, text.charAt(i));
        }
    }

    Birds row(int k, int lane, int... numbers) {
        sheet(k, lane, numbers.length);
        for (int i = 0; i < numbers.length; i++) {
            put(k, i, numbers[i]);
        }
        return this;
    }

    Birds fouls(int... all) {
        for (int g = 0; g < all.length; g++) {
            foul(g, all[g]);
        }
        return this;
    }

    /** FOUL of all GALLERIES, one behind another. */
    String air() {
        StringBuilder all = new StringBuilder();
        for (int g = 0; g < many(0); g++) {
            all.append(g == 0 ? "" : " ").append(ofGallery(g, 1));
        }
        return all.toString();
    }

    /** All that can be asked of an object, but for fault(), which this changes. */
    String all() {
        StringBuilder all = new StringBuilder("trace ").append(trace()).append(" many");
        for (int what = 0; what < 5; what++) {
            all.append(' ').append(many(what));
        }
        for (int w = 0; w < 4; w++) {
            all.append(w == 0 ? " bad " : " ").append(bad(w));
        }
        for (int g = 0; g < 6; g++) {
            all.append("\n gallery ").append(g).append(':');
            for (int what = 0; what < 6; what++) {
                all.append(' ').append(ofGallery(g, what));
            }
            all.append(" so ").append(strengths(g)).append(' ').append(kinds(g));
        }
        for (int k = 0; k < 4; k++) {
            all.append("\n sheet ").append(k).append(':').append(cells(k));
        }
        return all.toString();
    }

    private String cells(int k) {
        int lane = 0;
        long first = cell(k, 0, lane);
        while (first == LOST && fault() == 2) {
            lane++;
            first = cell(k, 0, lane);
        }
        if (first == LOST && fault() == 1) {
            return " nothing";
        }
        StringBuilder row = new StringBuilder(" lane ").append(lane).append(':');
        long v = first;
        for (int i = 1; v != LOST; i++) {
            row.append(' ').append(v);
            v = cell(k, i, lane);
        }
        return row.toString();
    }

    // the face

    int mine(int sheet, int lane, int i, int n) {
        return next().mine(sheet, lane, i, n);
    }

    int ofGallery(int g, int what) {
        return next().ofGallery(g, what);
    }

    int bad(int w) {
        return next().bad(w);
    }

    int foul(int g, int v) {
        return next().foul(g, v);
    }

    int breed(int g, int v) {
        return next().breed(g, v);
    }

    int door(int k, int is) {
        return next().door(k, is);
    }

    int say(int g, int w) {
        return next().say(g, w);
    }

    int hush(int n) {
        return next().hush(n);
    }

    int blow(int g) {
        return next().blow(g);
    }

    int shift(int sheet, int lane, int i, int n, int what) {
        return next().shift(sheet, lane, i, n, what);
    }

    int order(int sheet, int lane, int i, int n, int k) {
        return next().order(sheet, lane, i, n, k);
    }

    int shut(int sheet, int lane, int i, int n, int what) {
        return next().shut(sheet, lane, i, n, what);
    }

    int rests() {
        return next().rests();
    }

    int clears(int g, int v) {
        return next().clears(g, v);
    }

    int perches(int k) {
        return next().perches(k);
    }

    int found(int sheet, int lane, int i, int k) {
        return next().found(sheet, lane, i, k);
    }

    int reading(int g, int foul, int dropped) {
        return next().reading(g, foul, dropped);
    }

    int back(int k) {
        return next().back(k);
    }

    int strengths(int g) {
        return next().strengths(g);
    }

    int kinds(int g) {
        return next().kinds(g);
    }

    long odds(int g, int which) {
        return next().odds(g, which);
    }

    int sheet(int k, int lane, int n) {
        return next().sheet(k, lane, n);
    }

    int lose(int k) {
        return next().lose(k);
    }

    int put(int k, int i, int v) {
        return next().put(k, i, v);
    }

    long cell(int k, int i, int lane) {
        return next().cell(k, i, lane);
    }

    int copy(int k, int i, int other, int j, int n) {
        return next().copy(k, i, other, j, n);
    }

    int tell(int g) {
        return next().tell(g);
    }

    int sign(int g) {
        return next().sign(g);
    }

    int as(int g, int kind) {
        return next().as(g, kind);
    }

    int trace() {
        return next().trace();
    }

    int fault() {
        return next().fault();
    }

    int many(int what) {
        return next().many(what);
    }
}
