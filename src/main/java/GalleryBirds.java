public final class GalleryBirds {
    public static final int UNKNOWN = -1, OUTSIDE = -2, STATE = -3, FULL = -4, NONE = -9;
    public static final long LOST = Long.MIN_VALUE;

    private static final int TAKEN = 0;
    private static final int NO_FAULT = 0, NULL_FAULT = 1, CAST_FAULT = 2, INDEX_FAULT = 3, SIZE_FAULT = 4;
    private static final int GREY = 0, GREEN = 1, BRIGHT = 2, KINDS = 3;
    private static final int LEAST_GALLERIES = 2, MOST_GALLERIES = 6, MOST_WORDS = 4;
    private static final int MOST_FOUL = 40, MOST_STRENGTH = 9, SAME_AIR = 4;
    private static final int SHEETS = 4, LANES = 3, BYTES = 0, SHORTS = 1, MOST_CELLS = 60;
    private static final int MOST_PAIRS = 20, MOST_ORDERED = 6, MOST_HUSHED = 30, LONGEST_WAIT = 60;
    private static final int MOST_READINGS = 8, MOST_FOUND = 24, FOUL_OF_ONE = 10;
    private static final int PARTS_OF_GALLERY = 5;

    private final Sheet[] sheets = new Sheet[SHEETS];
    private final Pit pit = new Pit();
    private final Air air = new Air();
    private final Readings readings = new Readings();
    private final Pairs pairs = new Pairs();
    /** One Air for each depth of the search for an ORDER; the first of them serves every other trial. */
    private final Air[] trials = new Air[MOST_ORDERED + 1];
    private final int[] orderRow = new int[MOST_ORDERED];
    private final Seating seating = new Seating();
    private int breaths = 0;
    private int trail = 0;
    private int lastFault = NO_FAULT;

    public GalleryBirds() {
        for (int k = 0; k < SHEETS; k++) {
            sheets[k] = new Sheet();
        }
        for (int k = 0; k <= MOST_ORDERED; k++) {
            trials[k] = new Air();
        }
    }

    // ---- 1 the mine

    public int mine(int sheet, int lane, int i, int n) {
        lastFault = NO_FAULT;
        if (!isSheet(sheet)) {
            return UNKNOWN;
        }
        if (!isLane(lane)) {
            return OUTSIDE;
        }
        Sheet text = sheets[sheet];
        int fault = text.faultOfCells(lane, i, n);
        if (fault != NO_FAULT) {
            return faulted(fault);
        }
        int firstFault = firstFaultOfText(text.cells, i, n);
        if (firstFault != NONE) {
            return -100 - firstFault;
        }
        makeAnew(text.cells, i, n);
        return pit.galleries;
    }

    public int ofGallery(int g, int what) {
        if (!isGallery(g)) {
            return UNKNOWN;
        }
        switch (what) {
            case 0:
                return pit.kinds[g];
            case 1:
                return air.fouls[g];
            case 2:
                return pit.strengths[g];
            case 3:
                return pit.bears(g);
            case 4:
                return air.down >> g & 1;
            case 5:
                return isDoor(g) ? pit.doors >> g & 1 : NONE;
            default:
                return OUTSIDE;
        }
    }

    public int bad(int w) {
        if (!isWord(w)) {
            return UNKNOWN;
        }
        return pit.bads[w];
    }

    public int foul(int g, int v) {
        if (!isGallery(g)) {
            return UNKNOWN;
        }
        if (!isFoul(v)) {
            return OUTSIDE;
        }
        int was = air.fouls[g];
        air.fouls[g] = v;
        return was;
    }

    public int breed(int g, int v) {
        if (!isGallery(g)) {
            return UNKNOWN;
        }
        if (v < 1 || v > MOST_STRENGTH) {
            return OUTSIDE;
        }
        int was = pit.strengths[g];
        pit.strengths[g] = v;
        return was;
    }

    public int door(int k, int is) {
        if (!isDoor(k)) {
            return UNKNOWN;
        }
        if (is != 0 && is != 1) {
            return OUTSIDE;
        }
        int was = pit.doors >> k & 1;
        pit.doors = pit.doors & ~(1 << k) | is << k;
        return was;
    }

    // ---- 2 breaths

    public int say(int g, int w) {
        if (!isGallery(g) || !isWord(w)) {
            return UNKNOWN;
        }
        breaths++;
        return pit.breathe(air, pit.doors, g, w);
    }

    public int hush(int n) {
        if (n < 1 || n > MOST_HUSHED) {
            return OUTSIDE;
        }
        if (!hasMine()) {
            return STATE;
        }
        int dropped = 0;
        for (int b = 0; b < n; b++) {
            dropped |= pit.breatheHushed(air, pit.doors);
        }
        breaths += n;
        return dropped;
    }

    public int blow(int g) {
        if (!isGallery(g)) {
            return UNKNOWN;
        }
        if (!air.isDown(g) || air.fouls[g] > pit.bears(g)) {
            return STATE;
        }
        air.down &= ~(1 << g);
        return Integer.bitCount(air.down);
    }

    public int shift(int sheet, int lane, int i, int n, int what) {
        lastFault = NO_FAULT;
        if (!isSheet(sheet)) {
            return UNKNOWN;
        }
        if (!isLane(lane) || n < 0 || n > MOST_PAIRS || !isOfShift(what)) {
            return OUTSIDE;
        }
        int refusal = takePairs(sheets[sheet], lane, i, n);
        if (refusal != TAKEN) {
            return refusal;
        }
        Air then = trials[0];
        then.becomeLike(air);
        int dropped = 0;
        int firstWrong = NONE;
        for (int b = 0; b < pairs.count; b++) {
            int dropping = pit.breathe(then, pit.doors, pairs.galleries[b], pairs.words[b]);
            if (dropping != 0 && firstWrong == NONE) {
                firstWrong = b;
            }
            dropped |= dropping;
        }
        switch (what) {
            case 0:
                return Integer.bitCount(dropped);
            case 1:
                return firstWrong;
            case 2:
                return then.down;
            case 3:
                return foulTogether(then);
            default:
                return isGallery(what - FOUL_OF_ONE) ? then.fouls[what - FOUL_OF_ONE] : NONE;
        }
    }

    // ---- 3 orders, doors, rest

    public int order(int sheet, int lane, int i, int n, int k) {
        lastFault = NO_FAULT;
        if (!isSheet(sheet)) {
            return UNKNOWN;
        }
        if (!isLane(lane) || n < 0 || n > MOST_ORDERED || k < 0 || k >= MOST_ORDERED) {
            return OUTSIDE;
        }
        int refusal = takePairs(sheets[sheet], lane, i, n);
        if (refusal != TAKEN) {
            return refusal;
        }
        if (k >= pairs.count) {
            return NONE;
        }
        trials[0].becomeLike(air);
        return endsOrder(pit, pairs, trials, orderRow, 0, 0) ? orderRow[k] : NONE;
    }

    public int shut(int sheet, int lane, int i, int n, int what) {
        lastFault = NO_FAULT;
        if (!isSheet(sheet)) {
            return UNKNOWN;
        }
        if (!isLane(lane) || n < 0 || n > MOST_PAIRS || what < 0 || what > 1) {
            return OUTSIDE;
        }
        int refusal = takePairs(sheets[sheet], lane, i, n);
        if (refusal != TAKEN) {
            return refusal;
        }
        int best = 0;
        int fewest = dropsWithDoors(0);
        for (int doors = 1; doors < 1 << pit.galleries - 1; doors++) {
            int drops = dropsWithDoors(doors);
            if (drops < fewest || drops == fewest && Integer.bitCount(doors) < Integer.bitCount(best)) {
                best = doors;
                fewest = drops;
            }
        }
        return what == 0 ? best : fewest;
    }

    public int rests() {
        if (!hasMine()) {
            return STATE;
        }
        Air then = trials[0];
        then.becomeLike(air);
        for (int waited = 0; waited <= LONGEST_WAIT; waited++) {
            if (pit.passAir(then, pit.doors) == 0) {
                return waited;
            }
        }
        return NONE;
    }

    public int clears(int g, int v) {
        if (!isGallery(g)) {
            return UNKNOWN;
        }
        if (!isFoul(v)) {
            return OUTSIDE;
        }
        Air then = trials[0];
        then.becomeLike(air);
        for (int waited = 0; waited <= LONGEST_WAIT; waited++) {
            if (then.fouls[g] <= v) {
                return waited;
            }
            pit.passAir(then, pit.doors);
        }
        return NONE;
    }

    public int perches(int k) {
        if (k < -1 || k >= MOST_GALLERIES) {
            return OUTSIDE;
        }
        if (!hasMine()) {
            return STATE;
        }
        if (k >= pit.galleries) {
            return NONE;
        }
        seating.most = -1;
        seatFrom(pit, air, seating, 0, 0, 0);
        return k == -1 ? seating.most : seating.best[k];
    }

    public int found(int sheet, int lane, int i, int k) {
        lastFault = NO_FAULT;
        if (!isSheet(sheet)) {
            return UNKNOWN;
        }
        if (!isLane(lane) || k < -1 || k >= MOST_FOUND) {
            return OUTSIDE;
        }
        if (!hasMine()) {
            return STATE;
        }
        Sheet told = sheets[sheet];
        int fault = told.faultOfCells(lane, i, pit.galleries);
        if (fault != NO_FAULT) {
            return faulted(fault);
        }
        int many = 0;
        for (int g = 0; g < pit.galleries; g++) {
            for (int w = 0; w < pit.words; w++) {
                if (isAsTold(told.cells, i, airBehind(g, w))) {
                    if (many == k) {
                        return 10 * g + w;
                    }
                    many++;
                }
            }
        }
        return k == -1 ? many : NONE;
    }

    // ---- 4 where it sang

    public int reading(int g, int foul, int dropped) {
        if (!isGallery(g)) {
            return UNKNOWN;
        }
        if (!isFoul(foul) || dropped != 0 && dropped != 1) {
            return OUTSIDE;
        }
        if (readings.count >= MOST_READINGS) {
            return FULL;
        }
        return readings.write(g, foul, dropped);
    }

    public int back(int k) {
        if (k < 0 || k > readings.count) {
            return OUTSIDE;
        }
        readings.count -= k;
        return readings.count;
    }

    public int strengths(int g) {
        if (!isGallery(g)) {
            return UNKNOWN;
        }
        int set = 0;
        for (int strength = 1; strength <= MOST_STRENGTH; strength++) {
            if (readings.areSo(pit, g, bearing(pit.kinds[g], strength))) {
                set |= 1 << strength;
            }
        }
        return set;
    }

    public int kinds(int g) {
        if (!isGallery(g)) {
            return UNKNOWN;
        }
        int set = 0;
        for (int kind = 0; kind < KINDS; kind++) {
            if (readings.areSo(pit, g, bearing(kind, pit.strengths[g]))) {
                set |= 1 << kind;
            }
        }
        return set;
    }

    public long odds(int g, int which) {
        if (!isGallery(g) || which < 0 || which > 1) {
            return LOST;
        }
        int upper = 0;
        for (int in = 0; in < pit.galleries; in++) {
            for (int w = 0; w < pit.words; w++) {
                if (airBehind(in, w).isDown(g)) {
                    upper++;
                }
            }
        }
        int lower = pit.galleries * pit.words;
        int shared = commonDivisor(upper, lower);
        return which == 0 ? upper / shared : lower / shared;
    }

    // ---- 5 sheets, parts

    public int sheet(int k, int lane, int n) {
        lastFault = NO_FAULT;
        if (!isSheet(k)) {
            return UNKNOWN;
        }
        if (!isLane(lane) || n > MOST_CELLS) {
            return OUTSIDE;
        }
        if (n < 0) {
            return faulted(SIZE_FAULT);
        }
        sheets[k].begin(lane, n);
        return 1;
    }

    public int lose(int k) {
        if (!isSheet(k)) {
            return UNKNOWN;
        }
        boolean had = sheets[k].has;
        sheets[k].has = false;
        return had ? 1 : 0;
    }

    public int put(int k, int i, int v) {
        lastFault = NO_FAULT;
        if (!isSheet(k)) {
            return UNKNOWN;
        }
        Sheet on = sheets[k];
        int fault = on.faultOfCells(on.lane, i, 1);
        if (fault != NO_FAULT) {
            return faulted(fault);
        }
        on.cells[i] = cutToLane(v, on.lane);
        return 1;
    }

    public long cell(int k, int i, int lane) {
        lastFault = NO_FAULT;
        if (!isSheet(k) || !isLane(lane)) {
            return LOST;
        }
        int fault = sheets[k].faultOfCells(lane, i, 1);
        if (fault != NO_FAULT) {
            faulted(fault);
            return LOST;
        }
        return sheets[k].cells[i];
    }

    public int copy(int k, int i, int other, int j, int n) {
        lastFault = NO_FAULT;
        if (!isSheet(k) || !isSheet(other)) {
            return UNKNOWN;
        }
        Sheet from = sheets[k];
        Sheet to = sheets[other];
        if (!from.has || !to.has) {
            return faulted(NULL_FAULT);
        }
        if (from.lane != to.lane) {
            return faulted(CAST_FAULT);
        }
        if (n < 0 || !from.hasCells(i, n) || !to.hasCells(j, n)) {
            return faulted(INDEX_FAULT);
        }
        System.arraycopy(from.cells, i, to.cells, j, n);
        return n;
    }

    public int tell(int g) {
        if (!isGallery(g)) {
            return UNKNOWN;
        }
        switch (pit.kinds[g]) {
            case BRIGHT:
                return brightBody(g);
            case GREEN:
                return greenBody(g);
            default:
                return greyBody(g);
        }
    }

    public int sign(int g) {
        if (!isGallery(g)) {
            return UNKNOWN;
        }
        return pit.kinds[g] == BRIGHT ? brightSignature() : lentSignature(g);
    }

    public int as(int g, int kind) {
        lastFault = NO_FAULT;
        if (!isGallery(g)) {
            return UNKNOWN;
        }
        if (kind < 0 || kind >= KINDS) {
            return OUTSIDE;
        }
        // Each kind is all the kinds of a lower number, too.
        return kind <= pit.kinds[g] ? 1 : faulted(CAST_FAULT);
    }

    public int trace() {
        return trail;
    }

    public int fault() {
        return lastFault;
    }

    public int many(int what) {
        switch (what) {
            case 0:
                return pit.galleries;
            case 1:
                return pit.words;
            case 2:
                return breaths;
            case 3:
                return Integer.bitCount(air.down);
            case 4:
                return readings.count;
            default:
                return OUTSIDE;
        }
    }

    // what there is

    private boolean hasMine() {
        return pit.galleries > 0;
    }

    private boolean isGallery(int g) {
        return g >= 0 && g < pit.galleries;
    }

    private boolean isWord(int w) {
        return w >= 0 && w < pit.words;
    }

    /** The last GALLERY has no DOOR behind it. */
    private boolean isDoor(int k) {
        return k >= 0 && k < pit.galleries - 1;
    }

    private static boolean isSheet(int k) {
        return k >= 0 && k < SHEETS;
    }

    private static boolean isLane(int lane) {
        return lane >= 0 && lane < LANES;
    }

    private static boolean isFoul(int v) {
        return v >= 0 && v <= MOST_FOUL;
    }

    private static boolean isOfShift(int what) {
        return what >= 0 && what <= 3 || what >= FOUL_OF_ONE && what < FOUL_OF_ONE + MOST_GALLERIES;
    }

    private int faulted(int fault) {
        lastFault = fault;
        return -10 - fault;
    }

    // texts

    /** The place of the FIRST FAULT of a TEXT; NONE: there is none. */
    private static int firstFaultOfText(int[] codes, int from, int n) {
        if (n == 0 || codes[from] != 'm') {
            return 0;
        }
        int words = wordsOfText(codes, from, n);
        if (words == 0) {
            return 1;
        }
        int at = 1 + words;
        for (int g = 0; g < MOST_GALLERIES; g++) {
            if (at == n && g >= LEAST_GALLERIES) {
                return NONE;
            }
            for (int part = 0; part < PARTS_OF_GALLERY; part++) {
                if (at == n || !fitsGallery(part, codes[from + at])) {
                    return at;
                }
                at++;
            }
        }
        return at == n ? NONE : at;
    }

    private static int wordsOfText(int[] codes, int from, int n) {
        int words = 0;
        while (words < MOST_WORDS && 1 + words < n && isDigit(codes[from + 1 + words], 0, 9)) {
            words++;
        }
        return words;
    }

    private static boolean fitsGallery(int part, int code) {
        switch (part) {
            case 0:
                return code == ';';
            case 1:
                return kindOfLetter(code) != NONE;
            case 2:
                return isDigit(code, 0, 9);
            case 3:
                return isDigit(code, 1, 9);
            default:
                return isDigit(code, 0, 1);
        }
    }

    private static boolean isDigit(int code, int least, int most) {
        return code >= '0' + least && code <= '0' + most;
    }

    private static int kindOfLetter(int code) {
        switch (code) {
            case 'g':
                return GREY;
            case 'n':
                return GREEN;
            case 'b':
                return BRIGHT;
            default:
                return NONE;
        }
    }

    /** All becomes as a TEXT without a FIRST FAULT tells it. */
    private void makeAnew(int[] codes, int from, int n) {
        pit.words = wordsOfText(codes, from, n);
        for (int w = 0; w < pit.words; w++) {
            pit.bads[w] = codes[from + 1 + w] - '0';
        }
        int behindWords = 1 + pit.words;
        pit.galleries = Math.min((n - behindWords) / PARTS_OF_GALLERY, MOST_GALLERIES);
        pit.doors = 0;
        for (int g = 0; g < pit.galleries; g++) {
            int at = from + behindWords + PARTS_OF_GALLERY * g;
            pit.kinds[g] = kindOfLetter(codes[at + 1]);
            air.fouls[g] = codes[at + 2] - '0';
            pit.strengths[g] = codes[at + 3] - '0';
            if (isDoor(g)) {
                pit.doors |= codes[at + 4] - '0' << g;
            }
        }
        air.down = 0;
        breaths = 0;
        readings.count = 0;
    }

    // trials, by which nothing is changed

    /** Takes n told pairs over; answers TAKEN, or why they are refused. */
    private int takePairs(Sheet told, int lane, int i, int n) {
        int fault = told.faultOfCells(lane, i, 2 * n);
        if (fault != NO_FAULT) {
            return faulted(fault);
        }
        if (!hasMine()) {
            return STATE;
        }
        for (int b = 0; b < n; b++) {
            int g = told.cells[i + 2 * b];
            int w = told.cells[i + 2 * b + 1];
            if (!isGallery(g) || !isWord(w)) {
                return UNKNOWN;
            }
            pairs.galleries[b] = g;
            pairs.words[b] = w;
        }
        pairs.count = n;
        return TAKEN;
    }

    private int dropsWithDoors(int doors) {
        Air then = trials[0];
        then.becomeLike(air);
        int dropped = 0;
        for (int b = 0; b < pairs.count; b++) {
            dropped |= pit.breathe(then, doors, pairs.galleries[b], pairs.words[b]);
        }
        return Integer.bitCount(dropped);
    }

    private Air airBehind(int g, int w) {
        Air then = trials[0];
        then.becomeLike(air);
        pit.breathe(then, pit.doors, g, w);
        return then;
    }

    private int foulTogether(Air then) {
        int sum = 0;
        for (int g = 0; g < pit.galleries; g++) {
            sum += then.fouls[g];
        }
        return sum;
    }

    private boolean isAsTold(int[] told, int from, Air then) {
        for (int g = 0; g < pit.galleries; g++) {
            if (told[from + g] != then.fouls[g]) {
                return false;
            }
        }
        return true;
    }

    /** Ends a row whose first places are said already, lower places first; answers whether it can be ended. */
    private static boolean endsOrder(Pit pit, Pairs pairs, Air[] trials, int[] row, int depth, int said) {
        if (depth >= pairs.count || depth >= MOST_ORDERED) {
            return true;
        }
        for (int place = 0; place < pairs.count; place++) {
            if ((said >> place & 1) == 0) {
                Air next = trials[depth + 1];
                next.becomeLike(trials[depth]);
                row[depth] = place;
                if (pit.breathe(next, pit.doors, pairs.galleries[place], pairs.words[place]) == 0
                        && endsOrder(pit, pairs, trials, row, depth + 1, said | 1 << place)) {
                    return true;
                }
            }
        }
        return false;
    }

    /** Seats birds from GALLERY g on, lower numbers first, and keeps the first row in which the most are well. */
    private static void seatFrom(Pit pit, Air air, Seating seating, int g, int seated, int well) {
        // A row that can only be as good as the best one comes behind it.
        if (well + pit.galleries - g <= seating.most) {
            return;
        }
        if (g >= pit.galleries || g >= MOST_GALLERIES) {
            seating.keep(well);
            return;
        }
        for (int bird = 0; bird < pit.galleries; bird++) {
            if ((seated >> bird & 1) == 0) {
                seating.row[g] = bird;
                int more = air.fouls[g] <= pit.bears(bird) ? 1 : 0;
                seatFrom(pit, air, seating, g + 1, seated | 1 << bird, well + more);
            }
        }
    }

    // numbers

    private static int bearing(int kind, int strength) {
        switch (kind) {
            case BRIGHT:
                return 2 * strength;
            case GREEN:
                return strength - 1;
            default:
                return strength;
        }
    }

    private static int cutToLane(int v, int lane) {
        switch (lane) {
            case BYTES:
                return (byte) v;
            case SHORTS:
                return (short) v;
            default:
                return v;
        }
    }

    private static int commonDivisor(int upper, int lower) {
        for (int d = lower; d > 1; d--) {
            if (upper % d == 0 && lower % d == 0) {
                return d;
            }
        }
        return 1;
    }

    // bodies

    private void leave(int body) {
        trail = 31 * trail + body;
    }

    private int greyBody(int g) {
        leave(1);
        return pit.strengths[g];
    }

    private int greenBody(int g) {
        leave(2);
        return greyBody(g) + 100;
    }

    private int brightBody(int g) {
        leave(3);
        return greenBody(g) + greyBody(g);
    }

    private int lentSignature(int g) {
        leave(4);
        return g;
    }

    private int brightSignature() {
        leave(5);
        return 50;
    }

    /** What is built: WORDS, birds, DOORS; and how air goes through it. */
    private static final class Pit {
        int galleries = 0;
        int words = 0;
        final int[] bads = new int[MOST_WORDS];
        final int[] kinds = new int[MOST_GALLERIES];
        final int[] strengths = new int[MOST_GALLERIES];
        int doors = 0;

        int bears(int g) {
            return bearing(kinds[g], strengths[g]);
        }

        /** A BREATH with a WORD: which birds DROP. */
        int breathe(Air air, int open, int g, int w) {
            air.fouls[g] = Math.max(0, Math.min(MOST_FOUL, air.fouls[g] + bads[w] - SAME_AIR));
            return breatheHushed(air, open);
        }

        int breatheHushed(Air air, int open) {
            passAir(air, open);
            return dropBirds(air);
        }

        /** Answers through how many DOORS air passes. */
        int passAir(Air air, int open) {
            int passed = 0;
            for (int k = 0; k < galleries - 1; k++) {
                int apart = air.fouls[k] - air.fouls[k + 1];
                if ((open >> k & 1) == 1 && Math.abs(apart) >= 2) {
                    int goes = apart > 0 ? 1 : -1;
                    air.fouls[k] -= goes;
                    air.fouls[k + 1] += goes;
                    passed++;
                }
            }
            return passed;
        }

        private int dropBirds(Air air) {
            int dropped = 0;
            for (int g = 0; g < galleries; g++) {
                if (!air.isDown(g) && air.fouls[g] > bears(g)) {
                    dropped |= 1 << g;
                }
            }
            air.down |= dropped;
            return dropped;
        }
    }

    /** How foul the air is, and which birds are DOWN. */
    private static final class Air {
        final int[] fouls = new int[MOST_GALLERIES];
        int down = 0;

        boolean isDown(int g) {
            return (down >> g & 1) == 1;
        }

        void becomeLike(Air other) {
            System.arraycopy(other.fouls, 0, fouls, 0, MOST_GALLERIES);
            down = other.down;
        }
    }

    /** Told pairs of a GALLERY and a WORD. */
    private static final class Pairs {
        int count = 0;
        final int[] galleries = new int[MOST_PAIRS];
        final int[] words = new int[MOST_PAIRS];
    }

    /** Which GALLERY's bird sits where: the row that is tried, and the best one so far. */
    private static final class Seating {
        final int[] row = new int[MOST_GALLERIES];
        final int[] best = new int[MOST_GALLERIES];
        int most = -1;

        void keep(int well) {
            most = well;
            System.arraycopy(row, 0, best, 0, MOST_GALLERIES);
        }
    }

    private static final class Readings {
        int count = 0;
        private final int[] galleries = new int[MOST_READINGS];
        private final int[] fouls = new int[MOST_READINGS];
        private final int[] dropped = new int[MOST_READINGS];

        int write(int g, int foul, int drop) {
            int number = count;
            galleries[number] = g;
            fouls[number] = foul;
            dropped[number] = drop;
            count++;
            return number;
        }

        /** Whether all are so, if the bird of one GALLERY bore what is told in place of what it does. */
        boolean areSo(Pit pit, int g, int bears) {
            for (int r = 0; r < count; r++) {
                int borne = galleries[r] == g ? bears : pit.bears(galleries[r]);
                int drops = fouls[r] > borne ? 1 : 0;
                if (drops != dropped[r]) {
                    return false;
                }
            }
            return true;
        }
    }

    /** Nothing, or a row of cells of a LANE; the room for a full row stays, whatever it has. */
    private static final class Sheet {
        boolean has = false;
        int lane = 0;
        final int[] cells = new int[MOST_CELLS];
        private int count = 0;

        void begin(int newLane, int n) {
            has = true;
            lane = newLane;
            count = n;
            for (int i = 0; i < MOST_CELLS; i++) {
                cells[i] = 0;
            }
        }

        boolean hasCells(int i, int n) {
            return i >= 0 && i <= count && n <= count - i;
        }

        int faultOfCells(int asLane, int i, int n) {
            if (!has) {
                return NULL_FAULT;
            }
            if (lane != asLane) {
                return CAST_FAULT;
            }
            if (n < 0) {
                return SIZE_FAULT;
            }
            return hasCells(i, n) ? NO_FAULT : INDEX_FAULT;
        }
    }
}
