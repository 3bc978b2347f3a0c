/**
 * The least and the greatest of all that the document's sentences bound, and one beyond where it is taken otherwise:
 * Terms first, in their order, then what the calls' own lines bound. What is refused is in RefusalsTest.
 */
public final class BoundariesTest {
    private static final int NONE = -9, STATE = -3, FULL = -4, OUTSIDE = -2, UNKNOWN = -1;
    private static final long LOST = Long.MIN_VALUE;
    private static final String TWO = "m4;g091;g090";
    private static final String SIX = "m4;g091;g091;g091;g091;g091;g090";
    private static final String SIX_OF_FOUR_WORDS = "m0594;g011;n991;b451;g230;n670;b180";

    public static void main(String[] args) {
        sets();
        textWords();
        textGalleries();
        textCodes();
        textLanes();
        textEnds();
        wordsFouler();
        doorsAhead();
        allAnew();
        bears();
        foulEnds();
        foulEndsAheadOfAir();
        airPasses();
        airPassesDoorByDoor();
        shutDoors();
        dropsBehindAir();
        hushes();
        blows();
        shiftOfNone();
        shiftOfTwenty();
        shiftFouls();
        orders();
        ordersOfSix();
        shuts();
        shutTies();
        rests();
        clears();
        perches();
        found();
        foundCells();
        readings();
        strengths();
        kinds();
        odds();
        oddsOfAll();
        sheets();
        lanes();
        copies();
        bodies();
        traceWraps();
        setters();
        numbers();
        Checks.end();
    }

    private static void due(String what, long want, long got) {
        Checks.due(what, want, got);
    }

    private static void air(String what, String want, Birds x) {
        Checks.same(what, want, x.air());
    }

    // Terms: sets, texts

    private static void sets() {
        for (int g = 0; g < 6; g++) {
            Birds x = Birds.with("m4;g090;g090;g090;g090;g090;g090");
            x.foul(g, 10);
            due("bit k for number k: " + g, 1 << g, x.hush(1));
            due("one is down", 1, x.many(3));
            for (int other = 0; other < 6; other++) {
                due("whether it is DOWN: " + other, other == g ? 1 : 0, x.ofGallery(other, 4));
            }
        }
        Birds all = Birds.with("m4;g090;g090;g090;g090;g090;g090").fouls(10, 10, 10, 10, 10, 10);
        due("a full set", 63, all.hush(1));
        due("an empty set", 0, all.hush(1));
    }

    private static void textWords() {
        String two = ";g251;n340";
        due("a text: 1 word at least", -101, new Birds().mineBy("m" + two));
        String[] taken = {"m0", "m9", "m00", "m909", "m0000", "m9999"};
        for (String words : taken) {
            Birds x = new Birds();
            due("a text of " + words, 2, x.mineBy(words + two));
            due("its words", words.length() - 1, x.many(1));
            for (int w = 0; w < words.length() - 1; w++) {
                due("numbered from 0 on", words.charAt(1 + w) - '0', x.bad(w));
            }
            due("no further one", UNKNOWN, x.bad(words.length() - 1));
        }
        due("a text: the digit of a fifth word", -105, new Birds().mineBy("m00000" + two));
        due("a text: the digit of a fifth word, and no more", -105, new Birds().mineBy("m00000"));
        due("a text: the digits of two more words", -105, new Birds().mineBy("m000000"));
    }

    private static void textGalleries() {
        StringBuilder text = new StringBuilder("m4");
        int[] due = {-107, 2, 3, 4, 5, 6, -132, -132};
        for (int galleries = 1; galleries <= 8; galleries++) {
            text.append(";g011");
            Birds x = new Birds();
            due("a text of so many galleries: " + galleries, due[galleries - 1], x.mineBy(text.toString()));
            int many = galleries >= 2 && galleries <= 6 ? galleries : 0;
            due("so many are there", many, x.many(0));
            due("the last one", many == 0 ? UNKNOWN : 1, x.ofGallery(galleries - 1, 2));
            due("no further one", UNKNOWN, x.ofGallery(galleries, 2));
        }
        due("a text: the ; of a seventh gallery, and no more", -132, new Birds().mineBy(text.substring(0, 33)));
        due("a text: something else than a seventh gallery", -132, new Birds().mineBy(text.substring(0, 32) + "0"));
        // The DOOR of the last one is told, too, where there is none.
        due("a text: the last door is not told", -111, new Birds().mineBy("m4;g011;n99"));
        for (int is = 0; is <= 1; is++) {
            Birds x = new Birds();
            due("a text: the last door is told", 2, x.mineBy("m4;g01" + is + ";n99" + is));
            due("the first door", is, x.ofGallery(0, 5));
            due("there is none behind the last one", NONE, x.ofGallery(1, 5));
            due("the last one has no number", UNKNOWN, x.door(1, 0));
        }
        due("a text: the last door is no door", -111, new Birds().mineBy("m4;g011;n992"));
    }

    /** Each code in each place of a text of six galleries: what goes on there, and what doesn't. */
    private static void textCodes() {
        for (int place = 0; place < SIX_OF_FOUR_WORDS.length(); place++) {
            for (int code = -2; code < 130; code++) {
                Birds x = new Birds();
                x.codes(0, 2, SIX_OF_FOUR_WORDS);
                x.put(0, place, code);
                int due = code >= 0 && goesOn(place).indexOf(code) >= 0 ? 6 : -100 - place;
                // Fewer words: the galleries begin here, and the next code is no letter.
                if (code == ';' && place >= 2 && place <= 4) {
                    due = -100 - place - 1;
                }
                due("code " + code + " in place " + place, due, x.mine(0, 2, 0, SIX_OF_FOUR_WORDS.length()));
                due("what there is then", due == 6 ? code : 0, due == 6 ? told(x, place) : x.many(0));
            }
        }
    }

    private static String goesOn(int place) {
        if (place == 0) {
            return "m";
        }
        String[] parts = {";", "gnb", "0123456789", "123456789", "01"};
        return place < 5 ? "0123456789" : parts[(place - 5) % 5];
    }

    /** The code by which the object is as it is; of the last DOOR, which is none, the one that was told. */
    private static int told(Birds x, int place) {
        int g = (place - 5) / 5;
        if (place == 0 || place == 34 || place >= 5 && (place - 5) % 5 == 0) {
            return (int) x.cell(0, place, 2);
        }
        if (place < 5) {
            return '0' + x.bad(place - 1);
        }
        int part = (place - 5) % 5;
        int[] what = {0, 0, 1, 2, 5};
        int is = x.ofGallery(g, what[part]);
        return part == 1 ? "gnb".charAt(is) : '0' + is;
    }

    private static void textLanes() {
        String text = "m4;g011;n990";
        for (int lane = 0; lane < 3; lane++) {
            Birds x = new Birds();
            x.codes(0, lane, text);
            due("a text in lane " + lane, 2, x.mine(0, lane, 0, 12));
            for (int place = 0; place < 12; place += 3) {
                x.put(0, place, text.charAt(place) + 256);
                due("a code and 256", lane == 0 ? 2 : -100 - place, x.mine(0, lane, 0, 12));
                x.put(0, place, text.charAt(place) - 65536);
                due("a code less 65536", lane < 2 ? 2 : -100 - place, x.mine(0, lane, 0, 12));
                x.put(0, place, text.charAt(place));
            }
        }
    }

    /** The longest text, its starts, and what is one code longer; whole, and from each place of a full row on. */
    private static void textEnds() {
        int all = SIX_OF_FOUR_WORDS.length();
        Birds x = new Birds();
        x.codes(0, 0, SIX_OF_FOUR_WORDS + ";");
        for (int n = 0; n <= all + 1; n++) {
            int galleries = n >= 15 && n % 5 == 0 ? (n - 5) / 5 : 0;
            due("the first codes: " + n, n > all ? -135 : galleries > 0 ? galleries : -100 - n, x.mine(0, 0, 0, n));
        }
        for (int from = 0; from <= 25; from += 5) {
            Birds y = new Birds();
            y.sheet(0, 1, 60);
            for (int i = 0; i < all; i++) {
                y.put(0, from + i, SIX_OF_FOUR_WORDS.charAt(i));
            }
            due("the longest text from " + from, 6, y.mine(0, 1, from, all));
            due("the FIRST FAULT is counted from its first code", -134, y.mine(0, 1, from, all - 1));
            due("the last gallery's strength", 8, y.ofGallery(5, 2));
        }
        due("sixty codes", -135, new Birds().row(0, 2, sixty(SIX_OF_FOUR_WORDS)).mine(0, 2, 0, 60));
    }

    private static int[] sixty(String text) {
        int[] row = new int[60];
        for (int i = 0; i < row.length; i++) {
            row[i] = i < text.length() ? text.charAt(i) : ';';
        }
        return row;
    }

    private static void wordsFouler() {
        String[] texts = {"m0123;g090;g090", "m4567;g090;g090", "m89;g090;g090"};
        for (String text : texts) {
            for (int w = 0; w < text.indexOf(';') - 1; w++) {
                int digit = text.charAt(1 + w) - '0';
                Birds x = Birds.with(text).fouls(20, 7);
                due("BAD of " + digit, digit, x.bad(w));
                x.say(0, w);
                air("by 4 less than BAD", 20 + digit - 4 + " 7", x);
            }
        }
    }

    private static void doorsAhead() {
        for (int open = 0; open < 5; open++) {
            StringBuilder text = new StringBuilder("m4");
            for (int g = 0; g < 6; g++) {
                text.append(";g09").append(g == open ? 1 : 0);
            }
            Birds x = Birds.with(text.toString()).fouls(0, 2, 4, 6, 8, 10);
            for (int k = 0; k < 6; k++) {
                due("a DOOR has the number of the GALLERY ahead " + k, k == 5 ? NONE : k == open ? 1 : 0, x.ofGallery(k, 5));
            }
            x.hush(1);
            for (int g = 0; g < 6; g++) {
                int want = 2 * g + (g == open ? 1 : g == open + 1 ? -1 : 0);
                due("air passes by it alone", want, x.ofGallery(g, 1));
            }
            due("it was open", 1, x.door(open, 0));
            due("it is shut", 0, x.ofGallery(open, 5));
        }
    }

    private static void allAnew() {
        String small = "m08;g240;b461";
        Birds x = Birds.with(SIX_OF_FOUR_WORDS);
        x.fouls(40, 40, 40, 40, 40, 40);
        x.breed(0, 9);
        x.door(0, 0);
        x.tell(2);
        due("all drop", 63, x.say(0, 0));
        for (int r = 0; r < 8; r++) {
            x.reading(r % 6, 40, 0);
        }
        x.row(3, 1, -5, 5);
        Birds y = Birds.with(SIX_OF_FOUR_WORDS);
        y.tell(2);
        y.row(3, 1, -5, 5);
        due("a smaller mine", 2, x.mineBy(small));
        due("the same one", 2, y.mineBy(small));
        Checks.same("all is anew, but for SHEETS and TRACE", y.all(), x.all());
        due("a larger one again", 6, x.mineBy(SIX_OF_FOUR_WORDS));
        due("the same larger one", 6, y.mineBy(SIX_OF_FOUR_WORDS));
        due("no READINGS: eight more", 0, x.reading(0, 0, 0));
        y.reading(0, 0, 0);
        due("so it goes on", y.hush(30), x.hush(30));
    }

    // Terms: BEARS, A BREATH

    private static void bears() {
        for (int kind = 0; kind < 3; kind++) {
            for (int strength = 1; strength <= 9; strength++) {
                int bears = kind == 0 ? strength : kind == 1 ? strength - 1 : 2 * strength;
                String what = "a bird of kind " + kind + " and STRENGTH " + strength;
                Birds x = Birds.with("m4;g090;" + "gnb".charAt(kind) + "0" + strength + "0");
                due(what + " BEARS", bears, x.ofGallery(1, 3));
                x.foul(1, bears);
                due(what + " does not DROP where FOUL is what it BEARS", 0, x.hush(1));
                x.foul(1, bears + 1);
                due(what + " DROPS where it is above that", 2, x.hush(1));
                due(what + " does not sing where FOUL is more", STATE, x.blow(1));
                x.foul(1, bears);
                due(what + " sings where FOUL is no more", 0, x.blow(1));
                Birds bred = Birds.with("m4;g090;" + "gnb".charAt(kind) + "050");
                due(what + ", bred", 5, bred.breed(1, strength));
                due(what + ", bred, BEARS", bears, bred.ofGallery(1, 3));
            }
        }
    }

    private static void foulEnds() {
        int[] were = {0, 1, 2, 3, 4, 5, 6, 34, 35, 36, 37, 38, 39, 40};
        String[] texts = {"m0;g090;g090", "m3;g090;g090", "m4;g090;g090", "m5;g090;g090", "m9;g090;g090"};
        for (String text : texts) {
            for (int was : were) {
                for (int g = 0; g < 2; g++) {
                    Birds x = Birds.with(text);
                    x.foul(g, was);
                    x.say(g, 0);
                    int sum = was + text.charAt(1) - '0' - 4;
                    due("0 at least, 40 at most: " + text + " at " + was, Math.max(0, Math.min(40, sum)), x.ofGallery(g, 1));
                    due("the other one", 0, x.ofGallery(1 - g, 1));
                }
            }
        }
    }

    /** 0 at least and 40 at most, and then AIR PASSES: otherwise what is cut would make up for what passes. */
    private static void foulEndsAheadOfAir() {
        Birds x = Birds.with("m09;g091;g090");
        x.fouls(38, 0).say(0, 1);
        air("40 at most, and 1 of it goes on", "39 1", x);
        x.fouls(0, 2).say(0, 0);
        air("0 at least, and 1 comes", "1 1", x);
        x.fouls(39, 40).say(1, 1);
        air("40 already, apart by 1", "39 40", x);
        x.fouls(38, 40).say(1, 1);
        air("40 already, apart by 2", "39 39", x);
        x.fouls(1, 1).say(1, 0);
        air("apart by 1 from 0", "1 0", x);
    }

    private static void airPasses() {
        for (int ahead = 0; ahead <= 40; ahead++) {
            Birds x = Birds.with(TWO);
            for (int behind = 0; behind <= 40; behind++) {
                x.fouls(ahead, behind).hush(1);
                int goes = ahead >= behind + 2 ? 1 : behind >= ahead + 2 ? -1 : 0;
                due("apart by 2 or more, 1 goes: " + ahead + " " + behind, ahead - goes, x.ofGallery(0, 1));
                due("and comes: " + ahead + " " + behind, behind + goes, x.ofGallery(1, 1));
            }
        }
    }

    private static void airPassesDoorByDoor() {
        String three = "m4;g091;g091;g090";
        String[][] rows = {{"3 1 0", "2 1 1"}, {"0 1 3", "0 2 2"}, {"2 1 0", "2 1 0"}, {"2 0 0", "1 1 0"},
            {"0 0 2", "0 1 1"}, {"0 2 0", "1 1 0"}, {"0 3 0", "1 1 1"}, {"2 0 2", "1 1 2"}, {"3 0 3", "2 2 2"},
            {"40 0 40", "39 2 39"}, {"0 40 0", "1 38 1"}, {"4 2 0", "3 2 1"}, {"0 2 4", "1 2 3"}, {"1 3 0", "2 1 1"}};
        for (String[] row : rows) {
            Birds x = Birds.with(three).fouls(numbers(row[0]));
            x.hush(1);
            air("DOOR by DOOR, 0 first, " + row[0], row[1], x);
        }
        Birds x = Birds.with(SIX).fouls(10, 8, 7, 6, 5, 4);
        x.hush(1);
        air("through five doors by one breath", "9 8 7 6 5 5", x);
        x.fouls(4, 5, 6, 7, 8, 10).hush(1);
        air("back through the last one alone", "4 5 6 7 9 9", x);
    }

    private static int[] numbers(String row) {
        String[] parts = row.split(" ");
        int[] all = new int[parts.length];
        for (int p = 0; p < parts.length; p++) {
            all[p] = Integer.parseInt(parts[p]);
        }
        return all;
    }

    private static void shutDoors() {
        Birds x = Birds.with("m4;g090;g090;g090;g090;g090;g090").fouls(40, 0, 40, 0, 40, 0);
        x.hush(30);
        air("through no door that is shut", "40 0 40 0 40 0", x);
        x.door(4, 1);
        x.hush(1);
        air("through the last one that is open", "40 0 40 0 39 1", x);
    }

    private static void dropsBehindAir() {
        Birds x = Birds.with("m5;g551;g010");
        due("not where air has passed off", 0, x.say(0, 0));
        air("it has passed", "5 1", x);
        x = Birds.with("m5;g991;g110");
        due("but where it has come", 2, x.say(0, 0));
        due("one that is DOWN does not DROP", 0, x.say(1, 0));
        x.fouls(0, 0);
        due("and is DOWN in clear air, too", 0, x.hush(30));
        due("till it is blown upon", 1, x.many(3));
        due("then it sings", 0, x.blow(1));
        x.foul(1, 40);
        due("and DROPS again", 2, x.hush(1));
    }

    private static void hushes() {
        Birds once = Birds.with(SIX).fouls(40, 3, 17, 0, 9, 26);
        Birds each = Birds.with(SIX).fouls(40, 3, 17, 0, 9, 26);
        int drop = 0;
        for (int b = 0; b < 30; b++) {
            drop |= each.hush(1);
        }
        due("30 hushed breaths are 30 times 1", drop, once.hush(30));
        Checks.same("all is as by 30 times 1", each.all(), once.all());
        due("30 breaths", 30, once.many(2));
        Birds x = Birds.with("m4;g991;g010").fouls(4, 0);
        due("1 hushed breath: none yet", 0, x.hush(1));
        due("2 more: the other one", 2, x.hush(2));
        due("3 breaths", 3, x.many(2));
        due("a word that is as foul as air is a hushed breath", 0, x.say(0, 0));
        air("all rests", "2 2", x);
    }

    private static void blows() {
        Birds x = Birds.with("m4;g090;g090;g090;g090;g090;g090").fouls(10, 10, 10, 10, 10, 10);
        due("six drop", 63, x.hush(1));
        due("six are down", 6, x.many(3));
        for (int g = 5; g >= 0; g--) {
            due("FOUL is more by 1", STATE, x.blow(g));
            x.foul(g, 9);
            due("so many are DOWN yet", g, x.blow(g));
            due("it is not DOWN", STATE, x.blow(g));
            due("so many are DOWN", g, x.many(3));
        }
        due("no breath by it", 1, x.many(2));
    }

    // Terms: SHIFT, ORDER, SHUT

    private static void shiftOfNone() {
        Birds x = Birds.with("m09;g351;n260;b941;g191");
        x.fouls(40);
        x.hush(1);
        x.fouls(9, 2, 9, 1);
        x.row(1, 1, 7, 7);
        x.sheet(2, 2, 0);
        int[] whats = {0, 1, 2, 3, 10, 11, 12, 13, 14, 15};
        int[] want = {0, NONE, 1, 21, 9, 2, 9, 1, NONE, NONE};
        for (int q = 0; q < whats.length; q++) {
            due("a SHIFT of no pairs, what " + whats[q], want[q], x.shift(1, 1, 0, 0, whats[q]));
            due("at the end of a row, what " + whats[q], want[q], x.shift(1, 1, 2, 0, whats[q]));
            due("of an empty row, what " + whats[q], want[q], x.shift(2, 2, 0, 0, whats[q]));
        }
        due("an empty row has an end", 0, x.fault());
    }

    private static void shiftOfTwenty() {
        int[] row = new int[60];
        for (int b = 0; b < 30; b++) {
            row[2 * b] = 1;
            row[2 * b + 1] = b == 29 || b == 19 ? 1 : 0;
        }
        Birds x = Birds.with("m49;g090;g990").row(2, 1, row);
        due("FIRST WRONG is the last of twenty", 19, x.shift(2, 1, 0, 20, 1));
        due("one bird drops", 1, x.shift(2, 1, 0, 20, 0));
        due("it is down", 2, x.shift(2, 1, 0, 20, 2));
        due("nineteen are not wrong", NONE, x.shift(2, 1, 0, 19, 1));
        due("nineteen, from the second on", 18, x.shift(2, 1, 2, 19, 1));
        due("twenty at the end of a full row: the tenth", 9, x.shift(2, 1, 20, 20, 1));
        due("foul behind it", 19, x.shift(2, 1, 20, 20, 11));
        due("the last one alone", 0, x.shift(2, 1, 58, 1, 1));
        due("a place that is odd", 0, x.fault());
        due("nothing is changed", 9, x.ofGallery(1, 1));
        due("no breath", 0, x.many(2));
        due("none is down", 0, x.many(3));
        Birds all = Birds.with("m4;g090;g090;g090;g090;g090;g090").fouls(10, 10, 10, 10, 10, 10).row(1, 0, 0, 0);
        due("the first breath is wrong", 0, all.shift(1, 0, 0, 1, 1));
        due("six drop", 6, all.shift(1, 0, 0, 1, 0));
        due("six are down", 63, all.shift(1, 0, 0, 1, 2));
        all.hush(1);
        due("none drops that is down", 0, all.shift(1, 0, 0, 1, 0));
        due("none is wrong", NONE, all.shift(1, 0, 0, 1, 1));
        due("but six are down behind it", 63, all.shift(1, 0, 0, 1, 2));
        Birds on = Birds.with("m9;g990;g990").row(1, 2, 0, 0, 1, 0);
        due("the first wrong one", 0, on.shift(1, 2, 0, 2, 1));
        due("the SHIFT goes on", 2, on.shift(1, 2, 0, 2, 0));
    }

    private static void shiftFouls() {
        Birds six = Birds.with(SIX).fouls(40, 40, 40, 40, 40, 40).row(1, 2, 3, 0);
        due("240 together", 240, six.shift(1, 2, 0, 1, 3));
        for (int g = 0; g < 6; g++) {
            six.fouls(0, 0, 0, 0, 0, 0).foul(g, 1);
            due("FOUL of gallery " + g, 1, six.shift(1, 2, 0, 1, 10 + g));
            due("1 together", 1, six.shift(1, 2, 0, 1, 3));
        }
        six.foul(5, 0);
        due("0 together", 0, six.shift(1, 2, 0, 1, 3));
        Birds two = Birds.with(TWO).fouls(5, 6).row(1, 2, 1, 0);
        int[] want = {5, 6, NONE, NONE, NONE, NONE};
        for (int g = 0; g < 6; g++) {
            due("NONE: there is no such gallery, " + g, want[g], two.shift(1, 2, 0, 1, 10 + g));
        }
    }

    private static void orders() {
        Birds x = Birds.with("m08;g990;g090").row(1, 2, 0, 1, 0, 0);
        x.sheet(2, 1, 0);
        for (int k = 0; k < 6; k++) {
            due("an ORDER of no pairs has no place " + k, NONE, x.order(1, 2, 0, 0, k));
            due("at the end of a row", NONE, x.order(1, 2, 4, 0, k));
            due("of an empty row", NONE, x.order(2, 1, 0, 0, k));
            due("of one pair that drops a bird: none", NONE, x.order(1, 2, 0, 1, k));
            due("of one pair", k == 0 ? 0 : NONE, x.order(1, 2, 2, 1, k));
            due("of two pairs the other one first", k == 0 ? 1 : k == 1 ? 0 : NONE, x.order(1, 2, 0, 2, k));
        }
        due("no fault", 0, x.fault());
        x.foul(0, 10);
        due("10 less 4 is borne", 0, x.order(1, 2, 2, 1, 0));
        x.foul(0, 40);
        due("36 is more than 9", NONE, x.order(1, 2, 2, 1, 0));
        x.hush(1);
        due("a bird that is down already drops by none", 0, x.order(1, 2, 0, 2, 0));
    }

    private static void ordersOfSix() {
        // Of 4 more and 4 less in turn at 9, which is all that is borne.
        Birds x = Birds.with("m08;g990;g090").row(1, 0, 0, 1, 0, 1, 0, 1, 0, 0, 0, 0, 0, 0);
        int[] want = {3, 0, 4, 1, 5, 2};
        for (int k = 0; k < 6; k++) {
            due("of several orders of six the first, place " + k, want[k], x.order(1, 0, 0, 6, k));
        }
        x.breed(0, 1);
        for (int k = 0; k < 6; k++) {
            due("none of the 720 orders", NONE, x.order(1, 0, 0, 6, k));
        }
        Birds as = Birds.with("m4;g090;g090").row(1, 0, 0, 0, 1, 0, 0, 0, 1, 0, 0, 0, 1, 0);
        for (int k = 0; k < 6; k++) {
            due("all are quiet: as told, place " + k, k, as.order(1, 0, 0, 6, k));
            due("five of them", k < 5 ? k : NONE, as.order(1, 0, 2, 5, k));
        }
        due("nothing is changed", 0, as.many(2));
        // Just the last of the 24 rows: 2 1 5, 0 2 4, 0 1 3, 1 4 4, 2 4 5, where the middle one bears 4.
        Birds last = Birds.with("m9162;b291;n151;g591").row(1, 1, 2, 2, 1, 0, 1, 3, 0, 1);
        for (int k = 0; k < 6; k++) {
            due("the last of all rows, place " + k, k < 4 ? 3 - k : NONE, last.order(1, 1, 0, 4, k));
        }
    }

    private static void shuts() {
        Birds x = Birds.with(SIX).fouls(10, 8, 7, 6, 5, 4).row(1, 2, new int[40]);
        int[] strengths = {9, 8, 7, 6, 5, 5};
        for (int g = 0; g < 6; g++) {
            x.breed(g, strengths[g]);
        }
        x.sheet(2, 0, 0);
        due("no BREATH: no DOOR", 0, x.shut(1, 2, 0, 0, 0));
        due("no BREATH: none drops", 0, x.shut(1, 2, 0, 0, 1));
        due("of an empty row: no DOOR", 0, x.shut(2, 0, 0, 0, 0));
        due("at the end: none drops", 0, x.shut(1, 2, 40, 0, 1));
        due("one BREATH: all five DOORS", 31, x.shut(1, 2, 0, 1, 0));
        due("one BREATH: none drops", 0, x.shut(1, 2, 0, 1, 1));
        for (int k = 0; k < 5; k++) {
            x.door(k, 0);
        }
        due("in place of those that are OPEN", 31, x.shut(1, 2, 0, 1, 0));
        due("twenty BREATHS", 31, x.shut(1, 2, 0, 20, 0));
        due("twenty BREATHS: none drops", 0, x.shut(1, 2, 0, 20, 1));
        for (int k = 0; k < 5; k++) {
            due("the DOORS stay", 0, x.ofGallery(k, 5));
        }
        air("nothing is changed", "10 8 7 6 5 4", x);
        due("no breath", 0, x.many(2));
        Birds all = Birds.with(SIX).fouls(40, 40, 40, 40, 40, 40).row(1, 2, 0, 0);
        due("all six drop by any: no DOOR", 0, all.shut(1, 2, 0, 1, 0));
        due("all six drop", 6, all.shut(1, 2, 0, 1, 1));
        all.hush(1);
        due("those that are down drop no more", 0, all.shut(1, 2, 0, 1, 1));
    }

    private static void shutTies() {
        Birds x = Birds.with("m4;g090;g090;g090").row(1, 2, 1, 0).fouls(0, 10, 0);
        due("of two DOORS the least set", 1, x.shut(1, 2, 0, 1, 0));
        x.fouls(9, 10, 0);
        due("the second DOOR alone, as air passes not by the first", 2, x.shut(1, 2, 0, 1, 0));
        x.fouls(0, 11, 0);
        due("both DOORS, so that none drops", 3, x.shut(1, 2, 0, 1, 0));
        x.fouls(0, 9, 0);
        due("of all sets by which none drops the fewest DOORS", 0, x.shut(1, 2, 0, 1, 0));
        x.fouls(0, 12, 0);
        due("one drops by any set: the fewest DOORS", 0, x.shut(1, 2, 0, 1, 0));
        due("one drops", 1, x.shut(1, 2, 0, 1, 1));
        Birds four = Birds.with("m4;g090;g090;g090;g090").row(1, 2, 0, 0).fouls(0, 11, 0, 0);
        due("two DOORS ahead of one by which more drop", 3, four.shut(1, 2, 0, 1, 0));
        // Gallery 2 is clear by door 2 alone, or by door 1, if door 0 makes room ahead of it: sets 4 and 3.
        four.breed(1, 7);
        four.fouls(0, 7, 10, 0);
        due("one DOOR ahead of two that are a lesser set", 4, four.shut(1, 2, 0, 1, 0));
        due("none drops by it", 0, four.shut(1, 2, 0, 1, 1));
        four.fouls(0, 7, 10, 9);
        due("where it is the two that are needed", 3, four.shut(1, 2, 0, 1, 0));
        due("none drops by them", 0, four.shut(1, 2, 0, 1, 1));
    }

    // Terms: RESTS, CLEARS, PERCHES, FOUND

    private static void rests() {
        Birds two = Birds.with(TWO);
        for (int apart = 0; apart <= 40; apart++) {
            due("RESTS, apart by " + apart, apart / 2, two.fouls(apart, 0).rests());
            due("RESTS, the other way", apart / 2, two.fouls(0, apart).rests());
        }
        two.door(0, 0);
        due("no air passes by a DOOR that is shut", 0, two.fouls(40, 0).rests());
        Birds x = Birds.with(SIX);
        due("clear air rests", 0, x.rests());
        due("foul air rests", 0, x.fouls(40, 40, 40, 40, 40, 40).rests());
        due("a slope rests", 0, x.fouls(5, 4, 3, 2, 1, 0).rests());
        // All 41 * 41 * .. states of six GALLERIES were gone through once: none waits longer than 57, so none for NONE.
        due("the longest wait of all", 57, x.fouls(0, 0, 0, 38, 40, 40).rests());
        due("one that waits as long", 57, x.fouls(0, 0, 0, 40, 40, 40).rests());
        air("nothing is changed", "0 0 0 40 40 40", x);
        due("no breath", 0, x.many(2));
        due("none is down", 0, x.many(3));
        x.hush(30);
        x.hush(26);
        due("one breath yet, in which air passes", 1, x.rests());
        x.hush(1);
        due("it rests", 0, x.rests());
    }

    private static void clears() {
        Birds x = Birds.with(SIX).fouls(0, 0, 0, 40, 40, 40);
        for (int g = 0; g < 6; g++) {
            int is = g < 3 ? 0 : 40;
            due("CLEARS by what it is: " + g, 0, x.clears(g, is));
            due("CLEARS by 40: " + g, 0, x.clears(g, 40));
            due("CLEARS by 0: " + g, is == 0 ? 0 : NONE, x.clears(g, 0));
        }
        due("by 1 less: the first breath", 1, x.clears(3, 39));
        due("the longest wait of all", 57, x.clears(3, 20));
        due("never", NONE, x.clears(3, 19));
        air("nothing is changed", "0 0 0 40 40 40", x);
        Birds y = Birds.with("m4;g091;g091;g090").fouls(0, 3, 40);
        due("it is clear now, though not for long", 0, y.clears(0, 0));
        due("the first breath by which it is", 0, y.clears(1, 3));
        Birds up = Birds.with("m4;g091;g091;g091;g090").fouls(0, 2, 2, 9);
        due("it is clear for a while, behind one breath", 1, up.clears(1, 1));
        up = Birds.with(TWO).fouls(2, 0);
        due("behind one breath", 1, up.clears(0, 1));
        due("never in one that takes", 0, up.clears(1, 0));
    }

    private static void perches() {
        Birds six = Birds.with("m4;g010;g020;g030;g040;g050;g060").fouls(6, 5, 4, 3, 2, 1);
        due("in all six it is so", 6, six.perches(-1));
        for (int k = 0; k < 6; k++) {
            due("the last of all rows: " + k, 5 - k, six.perches(k));
        }
        six.fouls(7, 7, 7, 7, 7, 7);
        due("in none it is so", 0, six.perches(-1));
        for (int k = 0; k < 6; k++) {
            due("the first of all rows: " + k, k, six.perches(k));
        }
        six.fouls(6, 6, 6, 6, 6, 6);
        due("in one it is so", 1, six.perches(-1));
        for (int k = 0; k < 6; k++) {
            due("of several the first, as the last bird sits where it does: " + k, k, six.perches(k));
        }
        six.fouls(0, 0, 0, 0, 0, 0);
        due("in all, however they sit", 6, six.perches(-1));
        for (int k = 0; k < 6; k++) {
            due("the first of all 720: " + k, k, six.perches(k));
            due("who sits where stays", 1 + k, six.ofGallery(k, 2));
        }
        Birds two = Birds.with("m4;g120;n280").fouls(7, 2);
        int[] want = {2, 1, 0, NONE, NONE, NONE, NONE};
        for (int k = -1; k < 6; k++) {
            due("of two: " + k, want[k + 1], two.perches(k));
        }
        two.foul(0, 8);
        due("a GREEN one bears 1 less", 1, two.perches(-1));
        two.hush(1);
        two.foul(0, 7);
        due("one that is DOWN may sit, too", 2, two.perches(-1));
        Birds bright = Birds.with("m4;g190;b190").fouls(18, 9);
        due("a BRIGHT one bears twice", 2, bright.perches(-1));
        due("so it sits ahead", 1, bright.perches(0));
        due("in one, if it is fouler", 1, bright.fouls(19, 9).perches(-1));
    }

    private static void found() {
        Birds all = Birds.with("m4444;g010;g010;g010;g010;g010;g010").row(1, 2, 0, 0, 0, 0, 0, 0);
        due("24 pairs", 24, all.found(1, 2, 0, -1));
        for (int k = 0; k < 24; k++) {
            due("rising: " + k, 10 * (k / 4) + k % 4, all.found(1, 2, 0, k));
        }
        all.row(1, 2, 0, 0, 0, 0, 0, 1);
        due("no pair", 0, all.found(1, 2, 0, -1));
        for (int k = 0; k < 24; k++) {
            due("NONE: there are not so many, " + k, NONE, all.found(1, 2, 0, k));
        }
        Birds one = Birds.with("m4;g010;g010").row(1, 2, 0, 0);
        int[] two = {2, 0, 10, NONE};
        for (int k = -1; k < 3; k++) {
            due("of one word and two galleries: " + k, two[k + 1], one.found(1, 2, 0, k));
        }
        due("of one word the 24th", NONE, one.found(1, 2, 0, 23));
        Birds cut = Birds.with("m0123;g090;g090").row(1, 2, 0, 0);
        due("0 at least: all of both", 8, cut.found(1, 2, 0, -1));
        cut = Birds.with("m5678;g090;g090").row(1, 2, 40, 40).fouls(40, 40);
        due("40 at most: all of both", 8, cut.found(1, 2, 0, -1));
        Birds passing = Birds.with("m48;g091;g090").row(1, 0, 3, 1);
        due("as air has passed", 1, passing.found(1, 0, 0, -1));
        due("by the second word in gallery 0", 1, passing.found(1, 0, 0, 0));
        due("nothing is changed", 0, passing.many(2));
        due("no foul", 0, passing.ofGallery(0, 1));
    }

    private static void foundCells() {
        for (int lane = 0; lane < 3; lane++) {
            Birds x = Birds.with(TWO);
            int[] full = new int[60];
            full[58] = 40;
            full[59] = 39;
            x.row(1, lane, full).fouls(40, 39);
            due("cells at the end of a full row", 2, x.found(1, lane, 58, -1));
            due("cells ahead of it", 0, x.found(1, lane, 57, -1));
            x.put(1, 58, 39);
            due("just the first cell is another", 0, x.found(1, lane, 58, -1));
            x.put(1, 58, 40);
            x.put(1, 59, 40);
            due("just the last cell is another", 0, x.found(1, lane, 58, -1));
            x.put(1, 59, -1);
            due("below 0 is not found", 0, x.found(1, lane, 58, -1));
            x.put(1, 59, 41);
            due("above 40 is not found", 0, x.found(1, lane, 58, -1));
            x.put(1, 59, 39 + 256);
            due("what is cut to a byte is", lane == 0 ? 2 : 0, x.found(1, lane, 58, -1));
            x.put(1, 59, 39 + 65536);
            due("what is cut to a short is, too", lane < 2 ? 2 : 0, x.found(1, lane, 58, -1));
        }
    }

    // Terms: READINGS, STRENGTHS, KINDS, ODDS

    private static void readings() {
        Birds x = Birds.with(SIX);
        int[] fouls = {0, 40, 0, 40, 1, 39, 10, 9};
        for (int r = 0; r < 8; r++) {
            due("the first READING is 0, the last one 7", r, x.reading(r % 6, fouls[r], r / 2 % 2));
            due("so many", r + 1, x.many(4));
        }
        due("the ninth is FULL", FULL, x.reading(0, 0, 0));
        due("eight yet", 8, x.many(4));
        due("none is taken back", 8, x.back(0));
        due("it is FULL yet", FULL, x.reading(5, 40, 1));
        due("one is", 7, x.back(1));
        due("its number is free", 7, x.reading(5, 40, 1));
        due("nine are too many", OUTSIDE, x.back(9));
        due("eight are all", 0, x.back(8));
        due("there is none", OUTSIDE, x.back(1));
        due("none of none", 0, x.back(0));
        due("the first one again", 0, x.reading(0, 40, 0));
        due("two are too many", OUTSIDE, x.back(2));
        due("one is all", 0, x.back(1));
        due("what is taken back is told no more", 1022, x.strengths(0));
    }

    private static void strengths() {
        String[] kinds = {"g", "n", "b"};
        int[][] readings = {{0, 0}, {0, 1}, {1, 0}, {1, 1}, {2, 1}, {8, 0}, {9, 0}, {9, 1}, {10, 0}, {10, 1}, {18, 0},
            {18, 1}, {19, 0}, {19, 1}, {40, 0}, {40, 1}};
        int[][] want = {
            {1022, 0, 1022, 0, 2, 768, 512, 510, 0, 1022, 0, 1022, 0, 1022, 0, 1022},
            {1022, 0, 1020, 2, 6, 512, 0, 1022, 0, 1022, 0, 1022, 0, 1022, 0, 1022},
            {1022, 0, 1022, 0, 0, 1008, 992, 30, 992, 30, 512, 510, 0, 1022, 0, 1022}};
        for (int kind = 0; kind < 3; kind++) {
            for (int r = 0; r < readings.length; r++) {
                Birds x = Birds.with("m4;g090;" + kinds[kind] + "050");
                due("without READINGS all", 1022, x.strengths(1));
                x.reading(1, readings[r][0], readings[r][1]);
                String what = "STRENGTHS of " + kinds[kind] + " at " + readings[r][0] + " " + readings[r][1];
                due(what, want[kind][r], x.strengths(1));
            }
        }
        Birds x = Birds.with("m4;g090;g090");
        for (int r = 0; r < 4; r++) {
            x.reading(0, 5, 0);
            x.reading(0, 6, 1);
        }
        due("just one, by eight READINGS", 32, x.strengths(0));
        due("the other bird's READINGS are not so with what it is", 0, x.strengths(1));
        x.breed(0, 5);
        due("by how all is when it is asked", 1022, x.strengths(1));
        x.breed(0, 1);
        due("its own STRENGTH is not asked", 32, x.strengths(0));
        x.back(8);
        x.reading(0, 5, 0);
        x.reading(0, 5, 1);
        due("READINGS that are never so", 0, x.strengths(0));
    }

    private static void kinds() {
        int[] strengths = {1, 9};
        int[][] readings = {{0, 0}, {0, 1}, {1, 0}, {1, 1}, {2, 0}, {2, 1}, {3, 0}, {8, 0}, {8, 1}, {9, 0}, {9, 1},
            {10, 1}, {18, 0}, {18, 1}, {19, 0}, {40, 1}};
        int[][] want = {
            {7, 0, 5, 2, 4, 3, 0, 0, 7, 0, 7, 7, 0, 7, 0, 7},
            {7, 0, 7, 0, 7, 0, 7, 7, 0, 5, 2, 3, 4, 3, 0, 7}};
        for (int s = 0; s < 2; s++) {
            for (int kind = 0; kind < 3; kind++) {
                for (int r = 0; r < readings.length; r++) {
                    Birds x = Birds.with("m4;g090;" + "gnb".charAt(kind) + "0" + strengths[s] + "0");
                    due("without READINGS all", 7, x.kinds(1));
                    x.reading(1, readings[r][0], readings[r][1]);
                    String what = "KINDS at " + strengths[s] + " by " + readings[r][0] + " " + readings[r][1];
                    due(what + ", whichever it is", want[s][r], x.kinds(1));
                    due("it is what it was", kind, x.ofGallery(1, 0));
                }
            }
        }
        Birds x = Birds.with("m4;n090;g090");
        x.reading(0, 9, 0);
        due("the other bird's READING is not so with what it is", 0, x.kinds(1));
        due("but it may be so by another kind of it", 5, x.kinds(0));
    }

    private static void odds() {
        Birds two = Birds.with("m9;g990;g090");
        due("1 of 2, upper", 1, two.odds(0, 0));
        due("1 of 2, lower", 2, two.odds(0, 1));
        due("0 of 2 is 0", 0, two.odds(1, 0));
        due("of 1", 1, two.odds(1, 1));
        two.foul(0, 10);
        due("2 of 2 is 1", 1, two.odds(0, 0));
        due("of 1, too", 1, two.odds(0, 1));
        two.hush(1);
        two.foul(0, 0);
        due("a bird that is DOWN is DOWN behind it", 1, two.odds(0, 0));
        due("by all", 1, two.odds(0, 1));
        due("no breath", 1, two.many(2));
        two.blow(0);
        due("one that sings again is not", 0, two.odds(0, 0));
        due("by none", 1, two.odds(0, 1));
    }

    /** Six galleries and four words: 24 pairs, all bounds of how many of them it is. */
    private static void oddsOfAll() {
        String galleries = ";g990;g090;g090;g090;g090;g090";
        String[] fouler = {"m4444", "m4445", "m4455", "m4555", "m5555"};
        int[][] few = {{0, 1}, {1, 24}, {1, 12}, {1, 8}, {1, 6}};
        for (int t = 0; t < fouler.length; t++) {
            Birds x = Birds.with(fouler[t] + galleries);
            due(t + " of 24 in least terms, upper", few[t][0], x.odds(0, 0));
            due(t + " of 24 in least terms, lower", few[t][1], x.odds(0, 1));
        }
        // It drops at 10, but for a word that makes its own gallery clear.
        String[] clear = {"m3333", "m3334", "m3344", "m3444", "m4444"};
        int[][] most = {{5, 6}, {7, 8}, {11, 12}, {23, 24}, {1, 1}};
        for (int t = 0; t < clear.length; t++) {
            Birds x = Birds.with(clear[t] + galleries).fouls(10);
            due(20 + t + " of 24 in least terms, upper", most[t][0], x.odds(0, 0));
            due(20 + t + " of 24 in least terms, lower", most[t][1], x.odds(0, 1));
        }
        for (int g = 0; g < 6; g++) {
            due("of the last ones, too", g == 0 ? 1 : 0, Birds.with("m9" + galleries).odds(g, 0));
            due("of the last ones, lower", g == 0 ? 6 : 1, Birds.with("m9" + galleries).odds(g, 1));
        }
    }

    // Terms: SHEETS, TELLING, TRACE

    private static void sheets() {
        for (int k = 0; k < 4; k++) {
            for (int lane = 0; lane < 3; lane++) {
                Birds x = new Birds();
                due("nothing at first", LOST, x.cell(k, 0, lane));
                due("that is NULL", 1, x.fault());
                due("an empty row", 1, x.sheet(k, lane, 0));
                due("has no cell", LOST, x.cell(k, 0, lane));
                due("that is INDEX", 3, x.fault());
                due("one cell", 1, x.sheet(k, lane, 1));
                due("is 0", 0, x.cell(k, 0, lane));
                due("no second", LOST, x.cell(k, 1, lane));
                due("a full row", 1, x.sheet(k, lane, 60));
                for (int i = 0; i < 60; i++) {
                    due("is 0 at first", 0, x.cell(k, i, lane));
                    due("becomes 1 more", 1, x.put(k, i, i + 1));
                }
                for (int i = 0; i < 60; i++) {
                    due("is 1 more", i + 1, x.cell(k, i, lane));
                }
                due("no further one", LOST, x.cell(k, 60, lane));
                due("is put", -13, x.put(k, 60, 1));
                due("a new row in place of it", 1, x.sheet(k, lane, 60));
                due("0 at first again, 0", 0, x.cell(k, 0, lane));
                due("0 at first again, 59", 0, x.cell(k, 59, lane));
                due("it has something", 1, x.lose(k));
                due("it has nothing", 0, x.lose(k));
                due("so it has no cell", LOST, x.cell(k, 0, lane));
                due("that is NULL again", 1, x.fault());
                due("it gets a row again", 1, x.sheet(k, lane, 2));
                due("0 at first once more", 0, x.cell(k, 1, lane));
                due("other ones have nothing", 0, x.lose((k + 1) % 4));
            }
        }
        Birds empty = new Birds();
        empty.sheet(0, 0, 0);
        due("an empty row is something", 1, empty.lose(0));
    }

    private static void lanes() {
        int[][] values = {
            {0, 0, 0, 0}, {1, 1, 1, 1}, {-1, -1, -1, -1},
            {127, 127, 127, 127}, {128, -128, 128, 128}, {-128, -128, -128, -128}, {-129, 127, -129, -129},
            {255, -1, 255, 255}, {256, 0, 256, 256}, {-256, 0, -256, -256}, {384, -128, 384, 384},
            {32767, -1, 32767, 32767}, {32768, 0, -32768, 32768}, {-32768, 0, -32768, -32768},
            {-32769, -1, 32767, -32769}, {65535, -1, -1, 65535}, {65536, 0, 0, 65536}, {-65536, 0, 0, -65536},
            {Integer.MAX_VALUE, -1, -1, Integer.MAX_VALUE}, {Integer.MIN_VALUE, 0, 0, Integer.MIN_VALUE}};
        for (int lane = 0; lane < 3; lane++) {
            Birds x = new Birds();
            x.sheet(lane, lane, 60);
            x.sheet(3, lane, 60);
            for (int v = 0; v < values.length; v++) {
                int i = 3 * v;
                due("put " + values[v][0], 1, x.put(lane, i, values[v][0]));
                due("cut to lane " + lane + ": " + values[v][0], values[v][1 + lane], x.cell(lane, i, lane));
                due("no other cell", 0, x.cell(lane, i + 1, lane));
            }
            due("all go to another one", 60, x.copy(lane, 0, 3, 0, 60));
            for (int v = 0; v < values.length; v++) {
                due("as they were: " + values[v][0], values[v][1 + lane], x.cell(3, 3 * v, lane));
            }
        }
    }

    private static void copies() {
        for (int lane = 0; lane < 3; lane++) {
            Birds x = new Birds().row(0, lane, 1, 2, 3, 4, 5, 6);
            x.sheet(1, lane, 4);
            x.sheet(2, lane, 0);
            due("none", 0, x.copy(0, 0, 1, 0, 0));
            due("none at both ends", 0, x.copy(0, 6, 1, 4, 0));
            due("none of an empty one", 0, x.copy(2, 0, 2, 0, 0));
            due("none to an empty one", 0, x.copy(0, 6, 2, 0, 0));
            cells("nothing is changed", x, 1, lane, 0, 0, 0, 0);
            due("the last one to the last one", 1, x.copy(0, 5, 1, 3, 1));
            cells("the last one", x, 1, lane, 0, 0, 0, 6);
            due("as many as there is room for", 4, x.copy(0, 2, 1, 0, 4));
            cells("four", x, 1, lane, 3, 4, 5, 6);
            due("all of the shorter one", 4, x.copy(1, 0, 0, 2, 4));
            cells("as they were", x, 0, lane, 1, 2, 3, 4, 5, 6);
            due("on itself, on", 5, x.copy(0, 0, 0, 1, 5));
            cells("as they were, on", x, 0, lane, 1, 1, 2, 3, 4, 5);
            due("on itself, back", 5, x.copy(0, 1, 0, 0, 5));
            cells("as they were, back", x, 0, lane, 1, 2, 3, 4, 5, 5);
            due("on itself, where they are", 6, x.copy(0, 0, 0, 0, 6));
            cells("as they were, where they are", x, 0, lane, 1, 2, 3, 4, 5, 5);
            due("on itself, to the end", 3, x.copy(0, 0, 0, 3, 3));
            cells("as they were, to the end", x, 0, lane, 1, 2, 3, 1, 2, 3);
            due("no fault", 0, x.fault());
        }
    }

    private static void cells(String what, Birds x, int k, int lane, int... want) {
        for (int i = 0; i < want.length; i++) {
            due(what + ": cell " + i, want[i], x.cell(k, i, lane));
        }
    }

    private static void bodies() {
        for (int strength = 1; strength <= 9; strength++) {
            Birds x = Birds.with("m4;g0" + strength + "0;n0" + strength + "0;b0" + strength + "0");
            due("GREY tells", strength, x.tell(0));
            due("TRACE of GREY", 1, x.trace());
            due("GREEN tells", strength + 100, x.tell(1));
            due("TRACE of GREEN", (31 + 2) * 31 + 1, x.trace());
            due("BRIGHT tells", strength + 100 + strength, x.tell(2));
            due("TRACE of BRIGHT", (((1024 * 31 + 3) * 31 + 2) * 31 + 1) * 31 + 1, x.trace());
        }
        Birds six = Birds.with("m4;g010;n010;b010;g010;n010;b010");
        int[] signed = {0, 1, 50, 3, 4, 50};
        int trace = 0;
        for (int g = 0; g < 6; g++) {
            due("SIGNED " + g, signed[g], six.sign(g));
            trace = 31 * trace + (g % 3 == 2 ? 5 : 4);
            due("TRACE of what is SIGNED " + g, trace, six.trace());
        }
        due("no breath", 0, six.many(2));
    }

    private static void traceWraps() {
        Birds x = Birds.with("m4;g010;g010");
        int[] ones = {1, 32, 993, 30784, 954305, 29583456, 917087137, -1635069824};
        for (int t = 0; t < ones.length; t++) {
            due("tell", 1, x.tell(0));
            due("TRACE of so many bodies: " + (t + 1), ones[t], x.trace());
        }
        long exact = ones[ones.length - 1];
        for (int t = 0; t < 100; t++) {
            int body = t % 3 == 0 ? 1 : 4;
            if (body == 1) {
                x.tell(1);
            } else {
                x.sign(1);
            }
            exact = Math.floorMod(exact * 31 + body + (1L << 31), 1L << 32) - (1L << 31);
            due("TRACE wraps as an int", exact, x.trace());
        }
        Birds bright = Birds.with("m4;b010;g010");
        exact = 0;
        for (int t = 0; t < 100; t++) {
            bright.tell(0);
            for (int body : new int[] {3, 2, 1, 1}) {
                exact = Math.floorMod(exact * 31 + body + (1L << 31), 1L << 32) - (1L << 31);
            }
            due("TRACE wraps between bodies", exact, bright.trace());
        }
        int trace = bright.trace();
        due("a mine anew", 2, bright.mineBy(TWO));
        due("TRACE stays as it was", trace, bright.trace());
    }

    // what the calls' own lines bound

    private static void setters() {
        Birds x = Birds.with(SIX_OF_FOUR_WORDS);
        for (int g = 0; g < 6; g++) {
            int was = x.ofGallery(g, 1);
            due("FOUL: what it was", was, x.foul(g, 40));
            due("FOUL 40 is taken", 40, x.foul(g, 0));
            due("FOUL 0 is taken", 0, x.foul(g, 0));
            due("no bird DROPS by it", 0, x.foul(g, 40) + x.many(3));
            int bred = x.ofGallery(g, 2);
            due("STRENGTH: what it was", bred, x.breed(g, 9));
            due("STRENGTH 9 is taken", 9, x.breed(g, 1));
            due("STRENGTH 1 is taken", 1, x.breed(g, 1));
            due("no bird DROPS by that", 0, x.many(3));
            due("its kind stays", g % 3, x.ofGallery(g, 0));
        }
        for (int k = 0; k < 5; k++) {
            int was = x.ofGallery(k, 5);
            due("a DOOR: whether it was OPEN", was, x.door(k, 1));
            due("it is", 1, x.door(k, 1));
            due("it was", 1, x.door(k, 0));
            due("it is not", 0, x.door(k, 0));
            due("it is shut", 0, x.ofGallery(k, 5));
        }
        due("no air passes by it", 40, x.ofGallery(0, 1));
        due("no breath", 0, x.many(2));
        Birds two = Birds.with(TWO);
        due("two galleries: the second", 0, two.foul(1, 1));
        due("no third", UNKNOWN, two.foul(2, 1));
        due("two galleries: strength of the second", 9, two.breed(1, 1));
        due("no third one's", UNKNOWN, two.breed(2, 1));
        due("one door", 1, two.door(0, 0));
        due("no second door", UNKNOWN, two.door(1, 0));
        due("one word", 0, two.say(1, 0));
        due("no second word", UNKNOWN, two.say(1, 1));
        due("said in no third", UNKNOWN, two.say(2, 0));
        Birds six = Birds.with(SIX_OF_FOUR_WORDS);
        due("six galleries: the last word in the last one", 0, six.say(5, 3));
        due("no fifth word", UNKNOWN, six.say(5, 4));
        due("no seventh gallery", UNKNOWN, six.say(6, 3));
    }

    private static void numbers() {
        Birds x = Birds.with(SIX_OF_FOUR_WORDS).fouls(40, 40, 40, 40, 40, 40);
        for (int b = 0; b < 20; b++) {
            x.hush(30);
        }
        x.say(0, 0);
        for (int r = 0; r < 8; r++) {
            x.reading(0, 0, 0);
        }
        int[] want = {6, 4, 601, 6, 8};
        for (int what = 0; what < 5; what++) {
            due("how many: " + what, want[what], x.many(what));
        }
        Birds two = Birds.with(TWO);
        int[] least = {2, 1, 0, 0, 0};
        for (int what = 0; what < 5; what++) {
            due("how few: " + what, least[what], two.many(what));
        }
    }
}
