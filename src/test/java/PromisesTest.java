/** Every promise by hand-made calls: ordinary ones, the edges that the document names, and wrong ones. */
public final class PromisesTest {
    private static final long LOST = Long.MIN_VALUE;
    private static final String FOUR = "m2478;g351;n260;b941;g191";
    private static int wrong = 0;

    public static void main(String[] args) {
        constants();
        newObject();
        mineTexts();
        mineFaults();
        mineMakesAnew();
        ofGallery();
        bad();
        foul();
        breed();
        door();
        say();
        sayDownBirds();
        hush();
        blow();
        shift();
        shiftRefusals();
        order();
        orderRefusals();
        shut();
        shutRefusals();
        rests();
        clears();
        perches();
        found();
        foundRefusals();
        readings();
        strengths();
        kinds();
        odds();
        sheet();
        lose();
        put();
        cell();
        copy();
        copyFaults();
        tell();
        sign();
        as();
        trace();
        fault();
        many();
        System.out.println(wrong == 0 ? "all promises hold" : wrong + " answers are not as due");
        if (wrong != 0) {
            System.exit(1);
        }
    }

    private static void due(String what, long want, long got) {
        if (want != got) {
            wrong++;
            System.out.println(what + " answered " + got + ", due is " + want);
        }
    }

    private static void tellText(Birds x, int sheet, int lane, String text) {
        x.sheet(sheet, lane, text.length());
        for (int i = 0; i < text.length(); i++) {
            x.put(sheet, i, text.charAt(i));
        }
    }

    private static int mineBy(Birds x, String text) {
        tellText(x, 0, 0, text);
        return x.mine(0, 0, 0, text.length());
    }

    private static Birds with(String text) {
        Birds x = new Birds();
        if (mineBy(x, text) < 0) {
            due("mine " + text + " is taken: 1", 1, 0);
        }
        return x;
    }

    private static void numbers(Birds x, int sheet, int... row) {
        x.sheet(sheet, 2, row.length);
        for (int i = 0; i < row.length; i++) {
            x.put(sheet, i, row[i]);
        }
    }

    private static void fouls(String what, Birds x, int... row) {
        for (int g = 0; g < row.length; g++) {
            due(what + ": FOUL of " + g, row[g], x.ofGallery(g, 1));
        }
    }

    private static void constants() {
        due("UNKNOWN", -1, GalleryBirds.UNKNOWN);
        due("OUTSIDE", -2, GalleryBirds.OUTSIDE);
        due("STATE", -3, GalleryBirds.STATE);
        due("FULL", -4, GalleryBirds.FULL);
        due("NONE", -9, GalleryBirds.NONE);
        due("LOST", LOST, GalleryBirds.LOST);
    }

    private static void newObject() {
        Birds x = new Birds();
        for (int what = 0; what < 5; what++) {
            due("1 many", 0, x.many(what));
        }
        due("1 fault", 0, x.fault());
        due("1 trace", 0, x.trace());
        for (int k = 0; k < 4; k++) {
            due("1 lose", 0, x.lose(k));
            due("1 cell", LOST, x.cell(k, 0, 0));
            due("1 cell's fault", 1, x.fault());
        }
        due("1 ofGallery", -1, x.ofGallery(0, 0));
        due("1 hush", -3, x.hush(1));
    }

    private static void mineTexts() {
        String six = ";g011;n121;b231;g341;n451;b561";
        String[] texts = {
            "", "x", "1", "m", "mx", "m;", "m1", "m1x", "m/", "m:", "m1234", "m12345", "m123:",
            "m1;", "m1;;", "m1;g", "m1;x", "m1;m", "m1;gx", "m1;g2", "m1;g20", "m1;g2:", "m1;g25", "m1;g252", "m1;g25/",
            "m1;g251", "m1;g251x", "m1;g2511", "m1;g251;", "m1;g251;n34", "m1;g251;n342", "m1;g251;n340x",
            "m1;g251;n340;", "m1;g251;n340;b", "m1" + six + ";", "m1234" + six + "0", "m1" + six + "m"
        };
        int[] places = {
            0, 0, 0, 1, 1, 1, 2, 2, 1, 1, 5, 5, 4,
            3, 3, 4, 3, 3, 4, 5, 5, 5, 6, 6, 6,
            7, 7, 7, 8, 11, 11, 12,
            13, 14, 32, 35, 32
        };
        for (int t = 0; t < texts.length; t++) {
            Birds x = new Birds();
            due("2 mine " + texts[t], -100 - places[t], mineBy(x, texts[t]));
            due("2 nothing is made by " + texts[t], 0, x.many(0));
        }
        Birds starts = new Birds();
        tellText(starts, 0, 0, "m0123;g251;n340;b191");
        for (int n = 0; n < 20; n++) {
            due("2 the first codes: " + n, n == 15 ? 2 : -100 - n, starts.mine(0, 0, 0, n));
        }
        due("2 two galleries", 2, mineBy(new Birds(), "m1;g251;n340"));
        due("2 three galleries", 3, mineBy(new Birds(), "m12;g251;n340;b191"));
        Birds full = new Birds();
        due("2 six galleries", 6, mineBy(full, "m0987" + six));
        due("2 four words", 4, full.many(1));
        due("2 a zero is a word", 0, full.bad(0));
        due("2 the last word", 7, full.bad(3));
        for (int g = 0; g < 6; g++) {
            due("2 kind " + g, g % 3, full.ofGallery(g, 0));
            due("2 foul " + g, g, full.ofGallery(g, 1));
            due("2 strength " + g, g + 1, full.ofGallery(g, 2));
            due("2 door " + g, g < 5 ? 1 : -9, full.ofGallery(g, 5));
        }
    }

    private static void mineFaults() {
        Birds x = new Birds();
        due("2 no sheet below", -1, x.mine(-1, 9, 0, -1));
        due("2 no sheet above", -1, x.mine(4, 0, 0, 0));
        due("2 lane below", -2, x.mine(0, -1, 0, 0));
        due("2 lane above", -2, x.mine(0, 3, 0, 0));
        due("2 refused: no fault", 0, x.fault());
        due("2 nothing is no CAST", -11, x.mine(0, 2, 0, -1));
        due("2 NULL", 1, x.fault());
        due("2 a refusal takes the fault back", -1, x.mine(4, 0, 0, 0));
        due("2 fault behind a refusal", 0, x.fault());
        tellText(x, 0, 1, "zzm1;g251;n340z");
        due("2 CAST ahead of SIZE", -12, x.mine(0, 0, 0, -1));
        due("2 CAST", 2, x.fault());
        due("2 SIZE ahead of INDEX", -14, x.mine(0, 1, 99, -1));
        due("2 SIZE", 4, x.fault());
        due("2 SIZE of the least int", -14, x.mine(0, 1, 0, Integer.MIN_VALUE));
        due("2 INDEX below", -13, x.mine(0, 1, -1, 1));
        due("2 INDEX", 3, x.fault());
        due("2 INDEX beyond", -13, x.mine(0, 1, 3, 13));
        due("2 INDEX of no cells", -13, x.mine(0, 1, 16, 0));
        due("2 INDEX of many cells", -13, x.mine(0, 1, 2, Integer.MAX_VALUE));
        due("2 INDEX far", -13, x.mine(0, 1, Integer.MAX_VALUE, 1));
        due("2 no cells at the end", -100, x.mine(0, 1, 15, 0));
        due("2 a FIRST FAULT is no FAULT", 0, x.fault());
        due("2 from a place on", -112, x.mine(0, 1, 2, 13));
        due("2 from a place on, just the text", 2, x.mine(0, 1, 2, 12));
        due("2 taken: no fault", 0, x.fault());
        tellText(x, 1, 2, "m1;g251;n340");
        x.put(1, 0, 'm' + 256);
        due("2 an int is not cut", -100, x.mine(1, 2, 0, 12));
        tellText(x, 1, 0, "m1;g251;n340");
        x.put(1, 0, 'm' + 256);
        due("2 a byte is cut when it is put", 2, x.mine(1, 0, 0, 12));
    }

    private static void mineMakesAnew() {
        Birds x = with(FOUR);
        x.say(0, 3);
        x.reading(0, 3, 1);
        x.tell(0);
        int trace = x.trace();
        tellText(x, 3, 2, "m1;g251;n34");
        due("2 a faulty text", -111, x.mine(3, 2, 0, 11));
        due("2 galleries stay", 4, x.many(0));
        due("2 breaths stay", 1, x.many(2));
        due("2 down stays", 1, x.many(3));
        due("2 readings stay", 1, x.many(4));
        due("2 a mine with fewer doors", 2, mineBy(x, "m1;g250;n340"));
        due("2 galleries anew", 2, x.many(0));
        due("2 words anew", 1, x.many(1));
        due("2 no breaths", 0, x.many(2));
        due("2 none is down", 0, x.many(3));
        due("2 no readings", 0, x.many(4));
        due("2 the door is shut", 0, x.ofGallery(0, 5));
        due("2 foul anew", 2, x.ofGallery(0, 1));
        due("2 trace stays", trace, x.trace());
        due("2 a sheet stays", 'm', x.cell(3, 0, 2));
        due("2 no third gallery", -1, x.ofGallery(2, 0));
        due("2 no second word", -1, x.bad(1));
    }

    private static void ofGallery() {
        Birds x = with(FOUR);
        int[][] want = {{0, 3, 5, 5, 0, 1}, {1, 2, 6, 5, 0, 0}, {2, 9, 4, 8, 0, 1}, {0, 1, 9, 9, 0, -9}};
        for (int g = 0; g < 4; g++) {
            for (int what = 0; what < 6; what++) {
                due("3 ofGallery " + g + " " + what, want[g][what], x.ofGallery(g, what));
            }
        }
        due("3 what below", -2, x.ofGallery(0, -1));
        due("3 what above", -2, x.ofGallery(0, 6));
        due("3 unknown first", -1, x.ofGallery(4, 6));
        due("3 unknown below", -1, x.ofGallery(-1, 0));
        x.say(0, 3);
        due("3 down", 1, x.ofGallery(0, 4));
        Birds weak = with("m4;n010;b010");
        due("3 a GREEN one of STRENGTH 1", 0, weak.ofGallery(0, 3));
        due("3 a BRIGHT one of STRENGTH 1", 2, weak.ofGallery(1, 3));
    }

    private static void bad() {
        Birds x = with(FOUR);
        due("4 bad 0", 2, x.bad(0));
        due("4 bad 3", 8, x.bad(3));
        due("4 bad below", -1, x.bad(-1));
        due("4 bad above", -1, x.bad(4));
        due("4 bad without a mine", -1, new Birds().bad(0));
    }

    private static void foul() {
        Birds x = with(FOUR);
        due("5 what it was", 3, x.foul(0, 40));
        due("5 what it became", 40, x.foul(0, 0));
        due("5 no bird drops by it", 0, x.many(3));
        due("5 above", -2, x.foul(0, 41));
        due("5 below", -2, x.foul(0, -1));
        due("5 unknown first", -1, x.foul(4, 41));
        due("5 unknown below", -1, x.foul(-1, 1));
        due("5 refusals change nothing", 0, x.ofGallery(0, 1));
        due("5 no breath", 0, x.many(2));
    }

    private static void breed() {
        Birds x = with(FOUR);
        due("6 what it was", 4, x.breed(2, 9));
        due("6 bears more", 18, x.ofGallery(2, 3));
        due("6 what it became", 9, x.breed(2, 1));
        due("6 bears less", 2, x.ofGallery(2, 3));
        due("6 no bird drops by it", 0, x.many(3));
        due("6 below", -2, x.breed(2, 0));
        due("6 above", -2, x.breed(2, 10));
        due("6 unknown first", -1, x.breed(4, 0));
        due("6 unknown below", -1, x.breed(-1, 1));
        due("6 refusals change nothing", 1, x.ofGallery(2, 2));
    }

    private static void door() {
        Birds x = with(FOUR);
        due("7 was shut", 0, x.door(1, 1));
        due("7 was open", 1, x.door(1, 1));
        due("7 was open yet", 1, x.door(1, 0));
        due("7 other doors stay: 0", 1, x.ofGallery(0, 5));
        due("7 is shut", 0, x.ofGallery(1, 5));
        due("7 other doors stay: 2", 1, x.ofGallery(2, 5));
        due("7 the last gallery has none", -1, x.door(3, 0));
        due("7 below", -1, x.door(-1, 0));
        due("7 is above", -2, x.door(0, 2));
        due("7 is below", -2, x.door(0, -1));
        due("7 unknown first", -1, x.door(3, 2));
        due("7 refusals change nothing", 1, x.ofGallery(0, 5));
        due("7 without a mine", -1, new Birds().door(0, 0));
    }

    private static void say() {
        Birds x = with(FOUR);
        due("8 drops", 1, x.say(0, 3));
        fouls("8 said", x, 6, 3, 8, 2);
        due("8 breaths", 1, x.many(2));
        due("8 no gallery", -1, x.say(4, 0));
        due("8 no gallery below", -1, x.say(-1, 0));
        due("8 no word", -1, x.say(0, 4));
        due("8 no word below", -1, x.say(0, -1));
        due("8 refusals are no breaths", 1, x.many(2));
        fouls("8 refused", x, 6, 3, 8, 2);
        Birds ends = with("m09;g090;g990");
        due("8 a song in clean air", 0, ends.say(0, 0));
        fouls("8 0 at least", ends, 0, 9);
        ends = with("m09;g290;g190");
        ends.foul(1, 38);
        due("8 a curse in foul air", 2, ends.say(1, 1));
        fouls("8 40 at most", ends, 2, 40);
        // Air passes door by door, 0 first: what comes through the first can go on through the second.
        Birds row = with("m4;g291;g191;g091;g091");
        due("8 none drops", 0, row.say(0, 0));
        fouls("8 apart by 1", row, 2, 1, 0, 0);
        row.foul(0, 3);
        row.say(3, 0);
        fouls("8 door by door", row, 2, 1, 1, 0);
        row.foul(3, 9);
        row.foul(0, 0);
        row.foul(1, 0);
        row.foul(2, 0);
        row.say(3, 0);
        fouls("8 back", row, 0, 0, 1, 8);
        row.say(3, 0);
        fouls("8 back once more", row, 0, 0, 2, 7);
        row.say(3, 0);
        fouls("8 back through two", row, 0, 1, 2, 6);
    }

    private static void sayDownBirds() {
        Birds x = with("m49;g550;g740;b810");
        due("8 just above what it bears", 6, x.say(0, 0));
        due("8 two are down", 2, x.many(3));
        due("8 a bird that is down drops no more", 1, x.say(0, 1));
        due("8 three are down", 3, x.many(3));
        due("8 none is left", 0, x.say(0, 1));
    }

    private static void hush() {
        Birds x = with("m4;g991;g031;g010");
        due("9 none below", -2, x.hush(0));
        due("9 none above", -2, x.hush(31));
        due("9 first", 0, x.hush(1));
        fouls("9 first", x, 8, 1, 0);
        due("9 by three more the last one drops", 4, x.hush(3));
        fouls("9 behind four", x, 5, 2, 2);
        due("9 breaths", 4, x.many(2));
        due("9 thirty", 0, x.hush(30));
        due("9 breaths of all", 34, x.many(2));
        fouls("9 at rest", x, 4, 3, 2);
        Birds both = with("m4;g911;g011;g090");
        due("9 birds of several breaths", 3, both.hush(4));
        due("9 outside ahead of state", -2, new Birds().hush(0));
        due("9 no mine", -3, new Birds().hush(30));
    }

    private static void blow() {
        Birds x = with("m4;g650;n650;b690");
        due("10 it is not down", -3, x.blow(0));
        due("10 two drop", 3, x.say(0, 0));
        due("10 it is too foul", -3, x.blow(0));
        x.foul(0, 5);
        due("10 one is down yet", 1, x.blow(0));
        due("10 it sings", 0, x.ofGallery(0, 4));
        due("10 not again", -3, x.blow(0));
        x.foul(1, 5);
        due("10 a GREEN one bears 1 less", -3, x.blow(1));
        x.foul(1, 4);
        due("10 none is down", 0, x.blow(1));
        x.foul(0, 6);
        due("10 it drops again", 1, x.say(1, 0));
        due("10 unknown", -1, x.blow(3));
        due("10 unknown below", -1, x.blow(-1));
    }

    private static void shift() {
        Birds x = with(FOUR);
        numbers(x, 1, 7, 0, 3, 0, 3, 1, 2);
        int[] whats = {0, 1, 2, 3, 10, 11, 12, 13, 14, 15};
        int[] three = {2, 0, 3, 26, 8, 8, 6, 4, -9, -9};
        for (int q = 0; q < whats.length; q++) {
            due("11 shift what " + whats[q], three[q], x.shift(1, 2, 1, 3, whats[q]));
        }
        fouls("11 nothing is changed", x, 3, 2, 9, 1);
        due("11 no breath", 0, x.many(2));
        due("11 none is down", 0, x.many(3));
        int[] none = {0, -9, 0, 15, 3, 2, 9, 1, -9, -9};
        for (int q = 0; q < whats.length; q++) {
            due("11 no pairs, what " + whats[q], none[q], x.shift(1, 2, 7, 0, whats[q]));
        }
        // Quiet air first, so that the drop comes later than the first breath.
        numbers(x, 1, 3, 1, 3, 1, 0, 3);
        due("11 first wrong", 2, x.shift(1, 2, 0, 3, 1));
        x.say(0, 3);
        due("11 a bird that is down drops not", 0, x.shift(1, 2, 0, 0, 0));
        due("11 but is down behind it", 1, x.shift(1, 2, 0, 0, 2));
        due("11 no first wrong", -9, x.shift(1, 2, 0, 1, 1));
        int[] row = new int[40];
        for (int b = 0; b < 20; b++) {
            row[2 * b] = 3;
            row[2 * b + 1] = 1;
        }
        numbers(x, 2, row);
        due("11 twenty pairs", 0, x.shift(2, 2, 0, 20, 0));
    }

    private static void shiftRefusals() {
        Birds x = with(FOUR);
        numbers(x, 1, 0, 3);
        due("11 sheet above", -1, x.shift(4, 3, 0, 1, 0));
        due("11 sheet below", -1, x.shift(-1, 2, 0, 1, 0));
        due("11 lane above", -2, x.shift(1, 3, 0, 1, 0));
        due("11 lane below", -2, x.shift(1, -1, 0, 1, 0));
        due("11 n above", -2, x.shift(1, 2, 0, 21, 0));
        due("11 n below", -2, x.shift(1, 2, 0, -1, 0));
        due("11 what below", -2, x.shift(1, 2, 0, 1, -1));
        due("11 what 4", -2, x.shift(1, 2, 0, 1, 4));
        due("11 what 9", -2, x.shift(1, 2, 0, 1, 9));
        due("11 what 16", -2, x.shift(1, 2, 0, 1, 16));
        due("11 fault of refusals", 0, x.fault());
        due("11 CAST", -12, x.shift(1, 1, 9, 1, 0));
        due("11 CAST told", 2, x.fault());
        due("11 NULL", -11, x.shift(2, 1, 9, 1, 0));
        due("11 NULL told", 1, x.fault());
        due("11 INDEX", -13, x.shift(1, 2, 1, 1, 0));
        due("11 INDEX told", 3, x.fault());
        due("11 INDEX of no pairs", -13, x.shift(1, 2, 3, 0, 0));
        due("11 INDEX below", -13, x.shift(1, 2, -1, 0, 0));
        due("11 no pairs at the end", 0, x.shift(1, 2, 2, 0, 0));
        due("11 fault of none", 0, x.fault());
        numbers(x, 1, 0, 3, 4, 0);
        due("11 no such gallery", -1, x.shift(1, 2, 0, 2, 0));
        numbers(x, 1, 0, 3, 0, 4);
        due("11 no such word", -1, x.shift(1, 2, 0, 2, 0));
        numbers(x, 1, 0, -1);
        due("11 no such word below", -1, x.shift(1, 2, 0, 1, 0));
        due("11 pairs that are not taken do not matter", 0, x.shift(1, 2, 0, 0, 0));
        Birds y = new Birds();
        due("11 NULL ahead of STATE", -11, y.shift(0, 0, 0, 0, 0));
        numbers(y, 0, 9, 9);
        due("11 no mine ahead of the pairs", -3, y.shift(0, 2, 0, 1, 0));
        due("11 fault of STATE", 0, y.fault());
    }

    private static void order() {
        // The song must come between the curses: 5 bears neither 3 + 3 nor 0 + 5 + 5.
        Birds x = with("m917;g350;g090");
        numbers(x, 1, 0, 2, 0, 2, 0, 1, 1, 0);
        int[] want = {1, 0, -9, -9, -9, -9};
        numbers(x, 2, 0, 2, 0, 1);
        due("12 a song first", 1, x.order(2, 2, 0, 2, 0));
        due("12 a curse then", 0, x.order(2, 2, 0, 2, 1));
        due("12 no third", -9, x.order(2, 2, 0, 2, 2));
        due("12 no order of two curses", -9, x.order(1, 2, 0, 2, 0));
        due("12 no order of two curses and a song", -9, x.order(1, 2, 0, 3, 0));
        for (int k = 0; k < 6; k++) {
            due("12 of 2 from a place on " + k, want[k], x.order(1, 2, 2, 2, k));
        }
        // Of several orders the first: the pair elsewhere may come at any time.
        numbers(x, 1, 1, 0, 0, 2, 0, 1, 1, 1);
        int[] four = {0, 2, 1, 3, -9, -9};
        for (int k = 0; k < 6; k++) {
            due("12 of 4: " + k, four[k], x.order(1, 2, 0, 4, k));
        }
        fouls("12 nothing is changed", x, 3, 0);
        due("12 no breath", 0, x.many(2));
        due("12 no pairs", -9, x.order(1, 2, 0, 0, 0));
        numbers(x, 1, 1, 0, 1, 0, 1, 0, 1, 0, 1, 0, 1, 0);
        due("12 six curses", -9, x.order(1, 2, 0, 6, 0));
        x.breed(1, 9);
        numbers(x, 1, 1, 1, 1, 1, 1, 1, 0, 1, 0, 1, 1, 0);
        for (int k = 0; k < 6; k++) {
            due("12 six as told: " + k, k, x.order(1, 2, 0, 6, k));
        }
        Birds down = with("m9;g950;g090");
        down.hush(1);
        numbers(down, 1, 0, 0);
        due("12 a bird that is down drops not", 0, down.order(1, 2, 0, 1, 0));
    }

    private static void orderRefusals() {
        Birds x = with(FOUR);
        numbers(x, 1, 4, 0);
        due("12 sheet", -1, x.order(4, 3, 0, 1, 0));
        due("12 sheet below", -1, x.order(-1, 2, 0, 1, 0));
        due("12 lane", -2, x.order(1, 3, 0, 1, 0));
        due("12 n above", -2, x.order(1, 2, 0, 7, 0));
        due("12 n below", -2, x.order(1, 2, 0, -1, 0));
        due("12 k above", -2, x.order(1, 2, 0, 1, 6));
        due("12 k below", -2, x.order(1, 2, 0, 1, -1));
        due("12 CAST", -12, x.order(1, 0, 0, 1, 0));
        due("12 CAST told", 2, x.fault());
        due("12 NULL", -11, x.order(3, 0, 0, 1, 0));
        due("12 INDEX", -13, x.order(1, 2, 0, 2, 0));
        due("12 INDEX told", 3, x.fault());
        due("12 a pair that is none, though k is beyond", -1, x.order(1, 2, 0, 1, 5));
        due("12 fault of a refusal", 0, x.fault());
        Birds y = new Birds();
        numbers(y, 1, 4, 0);
        due("12 no mine", -3, y.order(1, 2, 0, 1, 0));
    }

    private static void shut() {
        Birds x = with(FOUR);
        numbers(x, 1, 0, 3, 0, 3, 1, 2);
        due("13 no pairs", 0, x.shut(1, 2, 0, 0, 0));
        due("13 no pairs, drops", 0, x.shut(1, 2, 0, 0, 1));
        due("13 three pairs", 4, x.shut(1, 2, 0, 3, 0));
        due("13 three pairs, drops", 1, x.shut(1, 2, 0, 3, 1));
        due("13 one pair", 2, x.shut(1, 2, 0, 1, 0));
        due("13 one pair, drops", 1, x.shut(1, 2, 0, 1, 1));
        numbers(x, 1, 3, 2, 0, 2, 1, 0, 2, 1, 1, 1);
        due("13 two doors", 3, x.shut(1, 2, 0, 5, 0));
        due("13 two doors, no drops", 0, x.shut(1, 2, 0, 5, 1));
        due("13 the doors stay: 1", 0, x.ofGallery(1, 5));
        due("13 the doors stay: 2", 1, x.ofGallery(2, 5));
        fouls("13 nothing is changed", x, 3, 2, 9, 1);
        // Either door saves the middle one: the least set.
        Birds y = with("m4;g090;g650;g090");
        numbers(y, 1, 1, 0);
        due("13 of several the least", 1, y.shut(1, 2, 0, 1, 0));
        due("13 none drops then", 0, y.shut(1, 2, 0, 1, 1));
        y.foul(1, 7);
        due("13 both", 3, y.shut(1, 2, 0, 1, 0));
        due("13 both, none drops", 0, y.shut(1, 2, 0, 1, 1));
        int[] row = new int[40];
        for (int b = 0; b < 20; b++) {
            row[2 * b] = 1;
        }
        numbers(y, 2, row);
        due("13 twenty pairs", 0, y.shut(2, 2, 0, 20, 1));
        y.foul(1, 5);
        y.door(0, 1);
        due("13 an open door is shut", 0, y.shut(1, 2, 0, 1, 0));
        y.foul(1, 6);
        y.foul(0, 7);
        y.breed(0, 7);
        due("13 the second door alone", 2, y.shut(1, 2, 0, 1, 0));
    }

    private static void shutRefusals() {
        Birds x = with(FOUR);
        numbers(x, 1, 0, 4);
        due("13 sheet", -1, x.shut(4, 2, 0, 1, 2));
        due("13 sheet below", -1, x.shut(-1, 2, 0, 1, 0));
        due("13 lane", -2, x.shut(1, 3, 0, 1, 0));
        due("13 n above", -2, x.shut(1, 2, 0, 21, 0));
        due("13 n below", -2, x.shut(1, 2, 0, -1, 0));
        due("13 what above", -2, x.shut(1, 2, 0, 1, 2));
        due("13 what below", -2, x.shut(1, 2, 0, 1, -1));
        due("13 CAST", -12, x.shut(1, 0, 0, 1, 0));
        due("13 CAST told", 2, x.fault());
        due("13 NULL", -11, x.shut(3, 0, 0, 1, 0));
        due("13 INDEX", -13, x.shut(1, 2, 0, 2, 0));
        due("13 INDEX told", 3, x.fault());
        due("13 no such word", -1, x.shut(1, 2, 0, 1, 0));
        due("13 fault of a refusal", 0, x.fault());
        Birds y = new Birds();
        numbers(y, 1, 0, 4);
        due("13 no mine", -3, y.shut(1, 2, 0, 1, 0));
    }

    private static void rests() {
        Birds x = with(FOUR);
        due("14 rests", 4, x.rests());
        fouls("14 nothing is changed", x, 3, 2, 9, 1);
        due("14 no bird drops", 0, x.many(3));
        due("14 no breath", 0, x.many(2));
        due("14 no mine", -3, new Birds().rests());
        due("14 at rest", 0, with("m4;g210;g390").rests());
        due("14 at rest with an open door", 0, with("m4;g211;g310").rests());
        Birds two = with("m4;g011;g010");
        two.foul(0, 40);
        due("14 two galleries", 20, two.rests());
        Birds six = with("m4;g011;g011;g011;g011;g011;g010");
        due("14 six at rest", 0, six.rests());
        six.foul(0, 40);
        six.foul(1, 40);
        six.foul(2, 40);
        int waited = waitsForRest(six, 200);
        due("14 six", waited <= 60 ? waited : -9, six.rests());
        for (int third = 0; third <= 40; third += 2) {
            longWaits(third);
        }
    }

    /** A plain count: hushed breaths until one changes no FOUL, by DOORS that are all OPEN. */
    private static int waitsForRest(Birds x, int most) {
        int[] row = new int[x.many(0)];
        for (int g = 0; g < row.length; g++) {
            row[g] = x.ofGallery(g, 1);
        }
        int waited = 0;
        boolean goes = true;
        while (goes && waited < most) {
            goes = false;
            for (int k = 0; k + 1 < row.length; k++) {
                if (row[k] >= row[k + 1] + 2) {
                    row[k]--;
                    row[k + 1]++;
                    goes = true;
                } else if (row[k] + 2 <= row[k + 1]) {
                    row[k]++;
                    row[k + 1]--;
                    goes = true;
                }
            }
            if (goes) {
                waited++;
            }
        }
        return waited;
    }

    /** 40 40 ahead, and two FOULS by which the wait grows. */
    private static void longWaits(int third) {
        Birds x = with("m4;g011;g011;g011;g011;g011;g010").fouls(40, 40, third);
        for (int fourth = 0; fourth <= 40; fourth += 5) {
            x.foul(3, fourth);
            int waited = waitsForRest(x, 200);
            due("14 rests " + third + " " + fourth, waited <= 60 ? waited : -9, x.rests());
        }
    }

    private static void clears() {
        Birds x = with(FOUR);
        due("15 now", 0, x.clears(2, 9));
        due("15 one breath", 1, x.clears(2, 8));
        due("15 four breaths", 4, x.clears(2, 5));
        due("15 never", -9, x.clears(2, 4));
        due("15 v above", -2, x.clears(0, 41));
        due("15 v below", -2, x.clears(0, -1));
        due("15 v 40", 0, x.clears(0, 40));
        due("15 unknown first", -1, x.clears(4, 41));
        due("15 unknown below", -1, x.clears(-1, 0));
        fouls("15 nothing is changed", x, 3, 2, 9, 1);
        due("15 no bird drops", 0, x.many(3));
        // It is clear already, though it becomes fouler then.
        Birds y = with("m4;g011;g990");
        due("15 clear ahead", 0, y.clears(0, 0));
        due("15 half", 4, y.clears(1, 5));
    }

    private static void perches() {
        Birds x = with(FOUR);
        int[] want = {4, 0, 1, 3, 2, -9, -9};
        for (int k = -1; k < 6; k++) {
            due("16 perches " + k, want[k + 1], x.perches(k));
        }
        due("16 below", -2, x.perches(-2));
        due("16 above", -2, x.perches(6));
        due("16 outside ahead of state", -2, new Birds().perches(6));
        due("16 no mine", -3, new Birds().perches(-1));
        x.foul(0, 40);
        int[] three = {3, 0, 1, 2, 3};
        x.breed(2, 9);
        for (int k = -1; k < 4; k++) {
            due("16 of several the first " + k, three[k + 1], x.perches(k));
        }
        // The weak bird goes where it is hopeless, the strong ones to the others.
        Birds y = with("m4;g990;g880;b210;n410;g330;g190");
        int[] six = {6, 0, 1, 4, 5, 3, 2};
        y.foul(2, 2);
        y.foul(3, 9);
        y.foul(4, 0);
        y.foul(5, 1);
        due("16 six", 6, y.perches(-1));
        int[] row = new int[6];
        for (int k = 0; k < 6; k++) {
            row[k] = y.perches(k);
        }
        due("16 six: 0", six[1], row[0]);
        due("16 six: 1", six[2], row[1]);
        due("16 six: 2", 2, row[2]);
        due("16 six: 3", 5, row[3]);
        due("16 six: 4", 3, row[4]);
        due("16 six: 5", 4, row[5]);
        due("16 who sits stays", 0, y.ofGallery(0, 0));
    }

    private static void found() {
        Birds x = with(FOUR);
        numbers(x, 2, 7, 3, 2, 8, 2);
        due("17 how many", 4, x.found(2, 2, 1, -1));
        // Behind word 1 (4 - 4 = 0) all is as behind a hushed one, wherever it is said.
        int[] want = {1, 11, 21, 31, -9};
        for (int k = 0; k < 5; k++) {
            due("17 found " + k, want[k], x.found(2, 2, 1, k));
        }
        numbers(x, 2, 6, 3, 8, 2);
        due("17 one", 1, x.found(2, 2, 0, -1));
        due("17 the one", 3, x.found(2, 2, 0, 0));
        due("17 no second", -9, x.found(2, 2, 0, 1));
        due("17 no 24th", -9, x.found(2, 2, 0, 23));
        numbers(x, 2, 6, 3, 8, 3);
        due("17 the last one counts", 0, x.found(2, 2, 0, -1));
        due("17 none", -9, x.found(2, 2, 0, 0));
        fouls("17 nothing is changed", x, 3, 2, 9, 1);
        due("17 no bird drops", 0, x.many(3));
        Birds all = with("m4444;g010;g010;g010;g010;g010;g010");
        numbers(all, 2, 0, 0, 0, 0, 0, 0);
        due("17 all", 24, all.found(2, 2, 0, -1));
        due("17 the last of all", 53, all.found(2, 2, 0, 23));
        due("17 the seventh of all", 12, all.found(2, 2, 0, 6));
    }

    private static void foundRefusals() {
        Birds x = with(FOUR);
        numbers(x, 2, 3, 2, 8, 2);
        due("17 sheet", -1, x.found(4, 3, 0, 0));
        due("17 sheet below", -1, x.found(-1, 2, 0, 0));
        due("17 lane", -2, x.found(2, 3, 0, 0));
        due("17 k above", -2, x.found(2, 2, 0, 24));
        due("17 k below", -2, x.found(2, 2, 0, -2));
        due("17 CAST", -12, x.found(2, 1, 9, 0));
        due("17 CAST told", 2, x.fault());
        due("17 NULL", -11, x.found(3, 2, 0, 0));
        due("17 NULL told", 1, x.fault());
        due("17 INDEX", -13, x.found(2, 2, 1, 0));
        due("17 INDEX below", -13, x.found(2, 2, -1, 0));
        due("17 INDEX told", 3, x.fault());
        due("17 none: no fault", 1, x.found(2, 2, 0, 0));
        due("17 no fault", 0, x.fault());
        Birds y = new Birds();
        due("17 outside ahead of state", -2, y.found(0, 3, 0, 0));
        due("17 state ahead of NULL", -3, y.found(0, 0, 0, 0));
        due("17 state is no fault", 0, y.fault());
    }

    private static void readings() {
        Birds x = with(FOUR);
        due("18 unknown first", -1, x.reading(4, 41, 2));
        due("18 unknown below", -1, x.reading(-1, 0, 0));
        due("18 foul above", -2, x.reading(0, 41, 0));
        due("18 foul below", -2, x.reading(0, -1, 0));
        due("18 dropped above", -2, x.reading(0, 0, 2));
        due("18 dropped below", -2, x.reading(0, 0, -1));
        for (int r = 0; r < 8; r++) {
            due("18 number", r, x.reading(r % 4, 5 * r, r % 2));
        }
        due("18 full", -4, x.reading(0, 0, 0));
        due("18 outside ahead of full", -2, x.reading(0, 41, 0));
        due("18 unknown ahead of full", -1, x.reading(4, 0, 0));
        due("18 eight", 8, x.many(4));
        due("18 no bird drops", 0, x.many(3));
        due("19 below", -2, x.back(-1));
        due("19 above", -2, x.back(9));
        due("19 none", 8, x.back(0));
        due("19 three", 5, x.back(3));
        due("19 above now", -2, x.back(6));
        due("19 five are left", 5, x.many(4));
        due("19 the next number", 5, x.reading(0, 0, 0));
        due("19 all", 0, x.back(6));
        due("19 none of none", 0, x.back(0));
        due("19 one of none", -2, x.back(1));
        due("19 without a mine", 0, new Birds().back(0));
    }

    private static void strengths() {
        Birds x = with("m4;g050;n050;b050");
        due("20 all", 1022, x.strengths(0));
        x.reading(0, 5, 0);
        due("20 a GREY one from 5 on", 0b1111100000, x.strengths(0));
        x.reading(0, 8, 1);
        due("20 a GREY one to 7", 0b0011100000, x.strengths(0));
        due("20 another one: all", 1022, x.strengths(1));
        x.reading(1, 4, 0);
        due("20 a GREEN one from 5 on", 0b1111100000, x.strengths(1));
        x.reading(2, 7, 1);
        due("20 another's reading is not so", 0, x.strengths(0));
        due("20 a BRIGHT one to 3", 0b0000001110, x.strengths(2));
        x.breed(2, 3);
        due("20 as it is when it is asked", 0b0011100000, x.strengths(0));
        x.breed(0, 1);
        due("20 its own strength does not matter", 0b0011100000, x.strengths(0));
        due("20 to others it does", 0, x.strengths(1));
        due("20 unknown", -1, x.strengths(3));
        due("20 unknown below", -1, x.strengths(-1));
        x.back(3);
        due("20 taken back", 0b1111100000, x.strengths(0));
        due("20 it stays", 1, x.ofGallery(0, 2));
    }

    private static void kinds() {
        Birds x = with("m4;g050;n050;b050");
        due("21 all", 7, x.kinds(0));
        x.reading(0, 5, 0);
        due("21 no GREEN one", 5, x.kinds(0));
        x.reading(0, 6, 1);
        due("21 GREY", 1, x.kinds(0));
        due("21 another one: all", 7, x.kinds(1));
        x.reading(1, 5, 1);
        due("21 GREEN", 2, x.kinds(1));
        x.reading(2, 10, 0);
        due("21 BRIGHT", 4, x.kinds(2));
        x.reading(2, 11, 0);
        due("21 none", 0, x.kinds(2));
        due("21 another's reading is not so", 0, x.kinds(0));
        x.breed(2, 6);
        due("21 as it is when it is asked", 1, x.kinds(0));
        due("21 unknown", -1, x.kinds(3));
        due("21 unknown below", -1, x.kinds(-1));
        due("21 it stays", 0, x.ofGallery(0, 0));
    }

    private static void odds() {
        Birds x = with("m49;g550;g150");
        // Of the four pairs just the curse in gallery 0 drops bird 0: 5 + 5; the one in gallery 1: 1 + 5.
        due("22 upper", 1, x.odds(0, 0));
        due("22 lower", 4, x.odds(0, 1));
        due("22 the other's upper", 1, x.odds(1, 0));
        due("22 the other's lower", 4, x.odds(1, 1));
        x.foul(0, 6);
        due("22 always", 1, x.odds(0, 0));
        due("22 always: 1", 1, x.odds(0, 1));
        x.foul(1, 0);
        due("22 never", 0, x.odds(1, 0));
        due("22 never: 1", 1, x.odds(1, 1));
        x.say(1, 0);
        x.foul(0, 0);
        due("22 it is down already", 1, x.odds(0, 0));
        due("22 it is down already: 1", 1, x.odds(0, 1));
        Birds half = with("m49;g550;g551;n350");
        due("22 two of six", 1, half.odds(1, 0));
        due("22 two of six in least terms", 3, half.odds(1, 1));
        due("22 nothing is changed", 0, half.many(3));
        due("22 no breath", 0, half.many(2));
        Birds terms = with("m4999;g550;g150");
        due("22 three of eight", 3, terms.odds(0, 0));
        due("22 of eight", 8, terms.odds(0, 1));
        Birds least = with("m4499;g550;g150");
        due("22 two of eight", 1, least.odds(0, 0));
        due("22 is one of four", 4, least.odds(0, 1));
        due("22 unknown", LOST, x.odds(2, 0));
        due("22 unknown below", LOST, x.odds(-1, 0));
        due("22 which above", LOST, x.odds(0, 2));
        due("22 which below", LOST, x.odds(0, -1));
        due("22 no mine", LOST, new Birds().odds(0, 0));
    }

    private static void sheet() {
        Birds x = new Birds();
        due("23 unknown first", -1, x.sheet(4, 3, 61));
        due("23 unknown below", -1, x.sheet(-1, 0, 0));
        due("23 lane above", -2, x.sheet(0, 3, -1));
        due("23 lane below", -2, x.sheet(0, -1, 0));
        due("23 n above", -2, x.sheet(0, 0, 61));
        due("23 refusals are no faults", 0, x.fault());
        due("23 SIZE", -14, x.sheet(0, 0, -1));
        due("23 SIZE told", 4, x.fault());
        due("23 a fault makes nothing", 0, x.lose(0));
        due("23 none", 1, x.sheet(0, 0, 0));
        due("23 fault of none", 0, x.fault());
        due("23 it has something", 1, x.lose(0));
        due("23 sixty", 1, x.sheet(0, 1, 60));
        due("23 the last one", 0, x.cell(0, 59, 1));
        due("23 no further one", LOST, x.cell(0, 60, 1));
        x.put(0, 0, 66);
        x.put(0, 5, 77);
        due("23 SIZE leaves what it has", -14, x.sheet(0, 1, Integer.MIN_VALUE));
        due("23 what it has", 77, x.cell(0, 5, 1));
        due("23 anew", 1, x.sheet(0, 2, 6));
        due("23 0 at first", 0, x.cell(0, 5, 2));
        due("23 0 at first, the first one, too", 0, x.cell(0, 0, 2));
        due("23 shorter now", LOST, x.cell(0, 6, 2));
    }

    private static void lose() {
        Birds x = new Birds();
        x.sheet(3, 2, 1);
        due("24 it had something", 1, x.lose(3));
        due("24 it has nothing", 0, x.lose(3));
        due("24 NULL now", -11, x.put(3, 0, 0));
        due("24 losing names no fault", 0, x.lose(3));
        due("24 so the fault stays", 1, x.fault());
        due("24 unknown", -1, x.lose(4));
        due("24 unknown below", -1, x.lose(-1));
        due("24 the fault stays yet", 1, x.fault());
    }

    private static void put() {
        Birds x = new Birds();
        int[] values = {127, 128, 255, 256, -129, 32767, 32768, 65536, Integer.MIN_VALUE, Integer.MAX_VALUE};
        for (int lane = 0; lane < 3; lane++) {
            x.sheet(lane, lane, 2);
            for (int v : values) {
                due("25 put", 1, x.put(lane, 1, v));
                long want = lane == 0 ? (byte) v : lane == 1 ? (short) v : v;
                due("25 cut to lane " + lane, want, x.cell(lane, 1, lane));
            }
            due("25 the other cell", 0, x.cell(lane, 0, lane));
        }
        due("25 unknown", -1, x.put(4, 0, 0));
        due("25 unknown below", -1, x.put(-1, 0, 0));
        due("25 NULL", -11, x.put(3, -1, 0));
        due("25 NULL told", 1, x.fault());
        due("25 INDEX", -13, x.put(0, 2, 0));
        due("25 INDEX told", 3, x.fault());
        due("25 INDEX below", -13, x.put(0, -1, 0));
        due("25 INDEX far below", -13, x.put(0, Integer.MIN_VALUE, 0));
        due("25 INDEX far above", -13, x.put(0, Integer.MAX_VALUE, 0));
        due("25 no fault", 1, x.put(0, 0, 0));
        due("25 no fault told", 0, x.fault());
    }

    private static void cell() {
        Birds x = new Birds();
        x.sheet(0, 1, 2);
        x.put(0, 1, -5);
        due("26 cell", -5, x.cell(0, 1, 1));
        due("26 no fault", 0, x.fault());
        due("26 CAST ahead of INDEX", LOST, x.cell(0, 9, 2));
        due("26 CAST told", 2, x.fault());
        due("26 unknown", LOST, x.cell(4, 0, 0));
        due("26 unknown is no fault", 0, x.fault());
        due("26 NULL", LOST, x.cell(1, 9, 2));
        due("26 NULL told", 1, x.fault());
        due("26 lane", LOST, x.cell(0, 0, 3));
        due("26 lane is no fault", 0, x.fault());
        due("26 INDEX", LOST, x.cell(0, 2, 1));
        due("26 INDEX told", 3, x.fault());
        due("26 lane below", LOST, x.cell(0, 0, -1));
        due("26 INDEX below", LOST, x.cell(0, -1, 1));
        due("26 INDEX below told", 3, x.fault());
        due("26 unknown below", LOST, x.cell(-1, 0, 1));
    }

    private static void copy() {
        Birds x = new Birds();
        numbers(x, 0, 1, 2, 3, 4, 5);
        x.sheet(1, 2, 3);
        due("27 to another one", 2, x.copy(0, 3, 1, 1, 2));
        due("27 not ahead", 0, x.cell(1, 0, 2));
        due("27 the first", 4, x.cell(1, 1, 2));
        due("27 the second", 5, x.cell(1, 2, 2));
        due("27 on", 4, x.copy(0, 0, 0, 1, 4));
        int[] on = {1, 1, 2, 3, 4};
        for (int i = 0; i < 5; i++) {
            due("27 as they were, on " + i, on[i], x.cell(0, i, 2));
        }
        due("27 back", 3, x.copy(0, 2, 0, 0, 3));
        int[] back = {2, 3, 4, 3, 4};
        for (int i = 0; i < 5; i++) {
            due("27 as they were, back " + i, back[i], x.cell(0, i, 2));
        }
        due("27 none", 0, x.copy(0, 5, 1, 3, 0));
        due("27 no fault", 0, x.fault());
    }

    private static void copyFaults() {
        Birds x = new Birds();
        numbers(x, 0, 1, 2, 3, 4, 5);
        x.sheet(1, 2, 3);
        due("27 unknown", -1, x.copy(4, 0, 0, 0, 0));
        due("27 unknown other", -1, x.copy(0, 0, 4, 0, 0));
        due("27 unknown below", -1, x.copy(-1, 0, 0, 0, 0));
        due("27 unknown other below", -1, x.copy(0, 0, -1, 0, 0));
        due("27 NULL, the other", -11, x.copy(0, 9, 2, 0, 0));
        due("27 NULL told", 1, x.fault());
        due("27 NULL, the first", -11, x.copy(2, 9, 0, 0, 0));
        x.sheet(2, 1, 5);
        due("27 CAST ahead of INDEX", -12, x.copy(0, 9, 2, 0, 0));
        due("27 CAST told", 2, x.fault());
        due("27 INDEX i", -13, x.copy(0, -1, 1, 0, 0));
        due("27 INDEX told", 3, x.fault());
        due("27 INDEX j", -13, x.copy(0, 0, 1, -1, 0));
        due("27 INDEX n", -13, x.copy(0, 0, 1, 0, -1));
        due("27 INDEX i beyond", -13, x.copy(0, 6, 1, 0, 0));
        due("27 INDEX j beyond", -13, x.copy(0, 0, 1, 4, 0));
        due("27 INDEX beyond the first", -13, x.copy(0, 4, 1, 0, 2));
        due("27 INDEX beyond the other", -13, x.copy(0, 0, 1, 2, 2));
        due("27 INDEX far", -13, x.copy(0, 1, 1, 1, Integer.MAX_VALUE));
        due("27 INDEX far i", -13, x.copy(0, Integer.MAX_VALUE, 1, 1, 1));
        due("27 nothing is changed", 0, x.cell(1, 2, 2));
    }

    private static void tell() {
        Birds x = with("m4;g050;n060;b070");
        due("28 GREY", 5, x.tell(0));
        due("28 GREY's body", 1, x.trace());
        due("28 GREEN", 106, x.tell(1));
        due("28 GREEN's bodies", (31 + 2) * 31 + 1, x.trace());
        x = with("m4;g050;n060;b070");
        due("28 BRIGHT", 114, x.tell(2));
        due("28 BRIGHT's bodies", ((3 * 31 + 2) * 31 + 1) * 31 + 1, x.trace());
        x.breed(2, 9);
        due("28 as it is now", 118, x.tell(2));
        int trace = x.trace();
        due("28 unknown", -1, x.tell(3));
        due("28 unknown below", -1, x.tell(-1));
        due("28 refusals leave nothing", trace, x.trace());
    }

    private static void sign() {
        Birds x = with("m4;g050;n060;b070;g010");
        due("29 GREY", 0, x.sign(0));
        due("29 lent", 4, x.trace());
        due("29 GREEN", 1, x.sign(1));
        due("29 lent, too", 4 * 31 + 4, x.trace());
        due("29 BRIGHT", 50, x.sign(2));
        due("29 its own", (4 * 31 + 4) * 31 + 5, x.trace());
        due("29 the last", 3, x.sign(3));
        int trace = x.trace();
        due("29 unknown", -1, x.sign(4));
        due("29 unknown below", -1, x.sign(-1));
        due("29 refusals leave nothing", trace, x.trace());
    }

    private static void as() {
        Birds x = with("m4;g050;n060;b070");
        for (int g = 0; g < 3; g++) {
            for (int kind = 0; kind < 3; kind++) {
                due("30 as " + g + " " + kind, kind <= g ? 1 : -12, x.as(g, kind));
                due("30 fault " + g + " " + kind, kind <= g ? 0 : 2, x.fault());
            }
        }
        due("30 CAST", -12, x.as(0, 2));
        due("30 unknown first", -1, x.as(3, 3));
        due("30 a refusal is no fault", 0, x.fault());
        due("30 unknown below", -1, x.as(-1, 0));
        due("30 kind above", -2, x.as(0, 3));
        due("30 kind below", -2, x.as(0, -1));
        due("30 it leaves no trace", 0, x.trace());
    }

    private static void trace() {
        Birds x = with("m4;g050;n060;b070");
        int want = 0;
        for (int t = 0; t < 40; t++) {
            x.tell(1);
            want = (want * 31 + 2) * 31 + 1;
            due("31 it wraps " + t, want, x.trace());
        }
        due("31 no mine", 0, new Birds().trace());
    }

    private static void fault() {
        Birds x = with(FOUR);
        x.put(3, 0, 0);
        due("32 told", 1, x.fault());
        due("32 told again", 1, x.fault());
        // Calls that name no FAULT leave it, refused or not.
        x.ofGallery(0, 0);
        x.ofGallery(9, 0);
        x.bad(0);
        x.foul(0, 99);
        x.breed(0, 0);
        x.door(0, 0);
        x.say(0, 0);
        x.say(9, 0);
        x.hush(0);
        x.hush(1);
        x.blow(0);
        x.rests();
        x.clears(0, 0);
        x.perches(-1);
        x.reading(0, 0, 0);
        x.back(0);
        x.strengths(0);
        x.kinds(0);
        x.odds(0, 0);
        x.lose(3);
        x.tell(0);
        x.sign(0);
        x.trace();
        x.many(0);
        x.many(9);
        due("32 it stays", 1, x.fault());
        x.put(4, 0, 0);
        due("32 a refusal of one that names FAULTS", 0, x.fault());
        x.put(3, 0, 0);
        x.sheet(3, 9, 0);
        due("32 a refused sheet", 0, x.fault());
        x.put(2, 0, 0);
        x.copy(9, 0, 0, 0, 0);
        due("32 a refused copy", 0, x.fault());
        x.put(2, 0, 0);
        x.as(0, 0);
        due("32 an as that came to none", 0, x.fault());
        x.put(2, 0, 0);
        x.copy(0, 0, 0, 0, 1);
        due("32 a copy that came to none", 0, x.fault());
        x.put(2, 0, 0);
        x.cell(0, 0, 0);
        due("32 a cell that came to none", 0, x.fault());
        x.put(2, 0, 0);
        x.shut(0, 0, 0, 0, 0);
        due("32 a shut that came to none", 0, x.fault());
        x.put(2, 0, 0);
        x.order(0, 0, 0, 0, 0);
        due("32 an order that came to none", 0, x.fault());
    }

    private static void many() {
        Birds x = with(FOUR);
        due("33 galleries", 4, x.many(0));
        due("33 words", 4, x.many(1));
        x.say(0, 3);
        x.hush(5);
        due("33 breaths", 6, x.many(2));
        due("33 down", 1, x.many(3));
        x.reading(0, 0, 0);
        due("33 readings", 1, x.many(4));
        due("33 below", -2, x.many(-1));
        due("33 above", -2, x.many(5));
    }
}
