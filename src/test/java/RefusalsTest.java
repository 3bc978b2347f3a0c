/**
 * Each call that is refused or comes to a FAULT: what it answers, that it changes nothing, what fault() tells then,
 * and, where there are two reasons for it, that the one told first is told.
 */
public final class RefusalsTest {
    private static final int UNKNOWN = -1, OUTSIDE = -2, STATE = -3, FULL = -4;
    private static final int NULL = -11, CAST = -12, INDEX = -13, SIZE = -14;
    private static final long LOST = Long.MIN_VALUE;
    private static final int LEAST = Integer.MIN_VALUE, MOST = Integer.MAX_VALUE;
    private static final int[] NO_SHEETS = {-1, 4, LEAST, MOST};
    private static final int[] NO_LANES = {-1, 3, LEAST, MOST};
    /** A mine of four galleries, 0 .. 3, has four words and the doors 0 .. 2. */
    private static final int[] NO_FOURTH = {-1, 4, LEAST, MOST};
    private static final int[] NO_DOORS = {-1, 3, 4, LEAST, MOST};
    private static final int[] NO_FOULS = {-1, 41, LEAST, MOST};
    private static final String FOUR = "m2478;g351;n260;b941;g191";

    private interface Call {
        long on(Birds x);
    }

    private interface Start {
        Birds made();
    }

    private interface PairCall {
        long on(Birds x, int sheet, int lane, int i, int n);
    }

    public static void main(String[] args) {
        newObject();
        theMine();
        theMinesTexts();
        ofGalleries();
        wordsAndFouls();
        strengthsAndDoors();
        breaths();
        pairCalls("11 shift", 20, (x, sheet, lane, i, n) -> x.shift(sheet, lane, i, n, 0));
        pairCalls("11 shift of a gallery that there is not", 20, (x, sheet, lane, i, n) -> x.shift(sheet, lane, i, n, 15));
        pairCalls("12 order", 6, (x, sheet, lane, i, n) -> x.order(sheet, lane, i, n, 0));
        pairCalls("12 order beyond n", 6, (x, sheet, lane, i, n) -> x.order(sheet, lane, i, n, 5));
        pairCalls("13 shut", 20, (x, sheet, lane, i, n) -> x.shut(sheet, lane, i, n, 0));
        whatIsAskedOfPairs();
        waits();
        perches();
        found();
        readings();
        strengthsKindsOdds();
        sheets();
        puts();
        cells();
        copies();
        tellings();
        kindsAndNumbers();
        faultBehindAll();
        Checks.end();
    }

    // what a refused call is started from

    /** Bird 0 is DOWN, FOULS are 6 3 8 2, one READING, some TRACE; sheet 0 has bytes, 1 ints, 2 shorts, 3 nothing. */
    private static Birds told() {
        Birds x = rows();
        x.mine(0, 0, 0, FOUR.length());
        x.say(0, 3);
        x.reading(0, 3, 0);
        x.tell(2);
        return x;
    }

    /** The same sheets, and no mine. */
    private static Birds rows() {
        Birds x = new Birds();
        x.codes(0, 0, FOUR);
        x.row(1, 2, 0, 3, 1, 2, 2, 1);
        x.row(2, 1, 3, 2, 9, 1, 7);
        return x;
    }

    private static Birds eightReadings() {
        Birds x = told();
        for (int r = 1; r < 8; r++) {
            x.reading(1, r, 1);
        }
        return x;
    }

    /** A refusal of a call that names FAULTS, or a FAULT: fault() tells it, whatever it told ahead of it. */
    private static void namesFaults(String what, long want, Start start, Call call) {
        int isFault = want <= NULL && want >= SIZE ? (int) (-10 - want) : 0;
        refused(what, want, start, isFault == 4 ? 1 : 4, isFault, call);
    }

    private static void namesFaults(String what, long want, Call call) {
        namesFaults(what, want, RefusalsTest::told, call);
    }

    /** A refusal of a call that names no FAULTS: fault() tells what it told. */
    private static void namesNone(String what, long want, Start start, Call call) {
        refused(what, want, start, 4, 4, call);
    }

    private static void namesNone(String what, long want, Call call) {
        namesNone(what, want, RefusalsTest::told, call);
    }

    private static void refused(String what, long want, Start start, int ahead, int behind, Call call) {
        Birds x = start.made();
        provoke(x, ahead);
        Checks.due(what, want, call.on(x));
        Checks.due(what + ": fault()", behind, x.fault());
        Checks.same(what + ": changes nothing", start.made().all(), x.all());
    }

    /** A FAULT that changes nothing: 1 by a sheet that has nothing, 4 by a length below 0. */
    private static void provoke(Birds x, int fault) {
        if (fault == 1) {
            x.lose(3);
            Checks.due("a fault ahead", NULL, x.put(3, 0, 0));
        } else {
            Checks.due("a fault ahead", SIZE, x.sheet(3, 0, -1));
        }
        Checks.due("a fault ahead is told", fault, x.fault());
    }

    // promise 1

    private static void newObject() {
        Birds x = new Birds();
        Checks.due("1 fault() ahead of any call", 0, x.fault());
        Checks.due("1 TRACE is 0 at first", 0, x.trace());
        Start made = Birds::new;
        for (int k = 0; k < 4; k++) {
            int sheet = k;
            for (int l = 0; l < 3; l++) {
                int lane = l;
                namesFaults("1 mine of sheet " + k, NULL, made, y -> y.mine(sheet, lane, 0, 0));
                namesFaults("1 shift of sheet " + k, NULL, made, y -> y.shift(sheet, lane, 0, 0, 0));
                namesFaults("1 order of sheet " + k, NULL, made, y -> y.order(sheet, lane, 0, 0, 0));
                namesFaults("1 shut of sheet " + k, NULL, made, y -> y.shut(sheet, lane, 0, 0, 0));
                namesFaults("1 found of sheet " + k, STATE, made, y -> y.found(sheet, lane, 0, 0));
                refused("1 cell of sheet " + k, LOST, made, 4, 1, y -> y.cell(sheet, 0, lane));
            }
            namesFaults("1 put on sheet " + k, NULL, made, y -> y.put(sheet, 0, 0));
            namesFaults("1 copy of sheet " + k, NULL, made, y -> y.copy(sheet, 0, sheet, 0, 0));
            namesNone("1 lose of sheet " + k, 0, made, y -> y.lose(sheet));
        }
        for (int w = 0; w < 6; w++) {
            int what = w;
            namesNone("1 ofGallery " + w, UNKNOWN, made, y -> y.ofGallery(0, what));
            namesNone("1 perches " + w, STATE, made, y -> y.perches(what));
        }
        namesNone("1 bad", UNKNOWN, made, y -> y.bad(0));
        namesNone("1 foul", UNKNOWN, made, y -> y.foul(0, 0));
        namesNone("1 breed", UNKNOWN, made, y -> y.breed(0, 1));
        namesNone("1 door", UNKNOWN, made, y -> y.door(0, 0));
        namesNone("1 say", UNKNOWN, made, y -> y.say(0, 0));
        namesNone("1 hush 1", STATE, made, y -> y.hush(1));
        namesNone("1 hush 30", STATE, made, y -> y.hush(30));
        namesNone("1 blow", UNKNOWN, made, y -> y.blow(0));
        namesNone("1 rests", STATE, made, y -> y.rests());
        namesNone("1 clears", UNKNOWN, made, y -> y.clears(0, 0));
        namesNone("1 perches -1", STATE, made, y -> y.perches(-1));
        namesNone("1 reading", UNKNOWN, made, y -> y.reading(0, 0, 0));
        namesNone("1 back 0: none is left", 0, made, y -> y.back(0));
        namesNone("1 back 1", OUTSIDE, made, y -> y.back(1));
        namesNone("1 strengths", UNKNOWN, made, y -> y.strengths(0));
        namesNone("1 kinds", UNKNOWN, made, y -> y.kinds(0));
        namesNone("1 odds, upper", LOST, made, y -> y.odds(0, 0));
        namesNone("1 odds, lower", LOST, made, y -> y.odds(0, 1));
        namesNone("1 tell", UNKNOWN, made, y -> y.tell(0));
        namesNone("1 sign", UNKNOWN, made, y -> y.sign(0));
        namesFaults("1 as", UNKNOWN, made, y -> y.as(0, 0));
        for (int w = 0; w < 5; w++) {
            int what = w;
            namesNone("1 many " + w, 0, made, y -> y.many(what));
        }
    }

    // promise 2

    private static void theMine() {
        for (int k : NO_SHEETS) {
            for (int lane : new int[] {-1, 0, 3}) {
                for (int n : new int[] {-1, 0, MOST}) {
                    namesFaults("2 mine: UNKNOWN ahead of all, sheet " + k, UNKNOWN, x -> x.mine(k, lane, -1, n));
                }
            }
        }
        for (int lane : NO_LANES) {
            namesFaults("2 mine: OUTSIDE, lane " + lane, OUTSIDE, x -> x.mine(0, lane, 0, 25));
            namesFaults("2 mine: OUTSIDE ahead of NULL", OUTSIDE, x -> x.mine(3, lane, 0, 25));
            namesFaults("2 mine: OUTSIDE ahead of SIZE", OUTSIDE, x -> x.mine(0, lane, 0, -1));
            namesFaults("2 mine: OUTSIDE ahead of INDEX", OUTSIDE, x -> x.mine(0, lane, 26, 0));
        }
        int[] lanes = {0, 2, 1};
        for (int k = 0; k < 3; k++) {
            int sheet = k;
            for (int l = 0; l < 3; l++) {
                int lane = l;
                namesFaults("2 mine: nothing is no CAST", NULL, x -> x.mine(3, lane, 0, 0));
                namesFaults("2 mine: NULL ahead of SIZE", NULL, x -> x.mine(3, lane, 0, -1));
                namesFaults("2 mine: NULL ahead of INDEX", NULL, x -> x.mine(3, lane, 1, 0));
                if (lane != lanes[k]) {
                    namesFaults("2 mine: CAST " + k + " " + lane, CAST, x -> x.mine(sheet, lane, 0, 0));
                    namesFaults("2 mine: CAST ahead of SIZE", CAST, x -> x.mine(sheet, lane, 0, -1));
                    namesFaults("2 mine: CAST ahead of INDEX", CAST, x -> x.mine(sheet, lane, 99, 0));
                }
            }
        }
        for (int n : new int[] {-1, -2, LEAST}) {
            for (int i : new int[] {0, 25, -1, 26, LEAST, MOST}) {
                namesFaults("2 mine: SIZE ahead of INDEX, n " + n + " from " + i, SIZE, x -> x.mine(0, 0, i, n));
            }
        }
        int[][] beyond = {{-1, 0}, {-1, 1}, {26, 0}, {25, 1}, {24, 2}, {1, 25}, {0, 26}, {LEAST, 0}, {MOST, 0}, {0, MOST},
            {MOST, 1}, {MOST, MOST}, {25, MOST}, {LEAST, MOST}};
        for (int[] b : beyond) {
            namesFaults("2 mine: INDEX " + b[0] + " " + b[1], INDEX, x -> x.mine(0, 0, b[0], b[1]));
            namesFaults("2 mine: INDEX ahead of a FIRST FAULT", INDEX, x -> x.mine(2, 1, b[0], b[1]));
        }
    }

    /** A text that is not taken answers -100 less its FIRST FAULT, which is none of the machine's FAULTS. */
    private static void theMinesTexts() {
        for (int i : new int[] {0, 1, 24, 25}) {
            namesFaults("2 mine: no codes from " + i, -100, x -> x.mine(0, 0, i, 0));
        }
        for (int n = 0; n < 25; n++) {
            int codes = n;
            if (n != 15 && n != 20) {
                namesFaults("2 mine: it ends too soon, " + n, -100 - n, x -> x.mine(0, 0, 0, codes));
            }
        }
        namesFaults("2 mine: it begins with no m", -100, x -> x.mine(0, 0, 1, 24));
        namesFaults("2 mine: of shorts", -100, x -> x.mine(2, 1, 0, 5));
        namesFaults("2 mine: of ints", -100, x -> x.mine(1, 2, 0, 6));
        Start empty = () -> told().row(3, 0);
        refused("2 mine: an empty row", -100, empty, 4, 0, x -> x.mine(3, 0, 0, 0));
        refused("2 mine: an empty row, INDEX 1", INDEX, empty, 4, 3, x -> x.mine(3, 0, 1, 0));
        refused("2 mine: an empty row, INDEX -1", INDEX, empty, 4, 3, x -> x.mine(3, 0, -1, 0));
        refused("2 mine: an empty row, one code", INDEX, empty, 4, 3, x -> x.mine(3, 0, 0, 1));
        refused("2 mine: an empty row is of its lane", CAST, empty, 4, 2, x -> x.mine(3, 1, 0, 0));
    }

    // promises 3 to 7

    private static void ofGalleries() {
        for (int g : NO_FOURTH) {
            for (int what : new int[] {0, 5, -1, 6, LEAST, MOST}) {
                namesNone("3 ofGallery: UNKNOWN " + g + " ahead of OUTSIDE", UNKNOWN, x -> x.ofGallery(g, what));
            }
        }
        for (int what : new int[] {-1, 6, LEAST, MOST}) {
            namesNone("3 ofGallery: OUTSIDE " + what, OUTSIDE, x -> x.ofGallery(0, what));
            namesNone("3 ofGallery of the last: OUTSIDE " + what, OUTSIDE, x -> x.ofGallery(3, what));
        }
    }

    private static void wordsAndFouls() {
        for (int w : NO_FOURTH) {
            namesNone("4 bad: UNKNOWN " + w, UNKNOWN, x -> x.bad(w));
        }
        for (int g : NO_FOURTH) {
            for (int v : new int[] {0, 40, -1, 41, LEAST, MOST}) {
                namesNone("5 foul: UNKNOWN " + g + " ahead of OUTSIDE", UNKNOWN, x -> x.foul(g, v));
            }
        }
        for (int v : NO_FOULS) {
            namesNone("5 foul: OUTSIDE " + v, OUTSIDE, x -> x.foul(0, v));
            namesNone("5 foul of the last: OUTSIDE " + v, OUTSIDE, x -> x.foul(3, v));
        }
    }

    private static void strengthsAndDoors() {
        int[] noStrengths = {0, 10, -1, LEAST, MOST};
        for (int g : NO_FOURTH) {
            for (int v : new int[] {1, 9, 0, 10}) {
                namesNone("6 breed: UNKNOWN " + g + " ahead of OUTSIDE", UNKNOWN, x -> x.breed(g, v));
            }
        }
        for (int v : noStrengths) {
            namesNone("6 breed: OUTSIDE " + v, OUTSIDE, x -> x.breed(0, v));
            namesNone("6 breed of the last: OUTSIDE " + v, OUTSIDE, x -> x.breed(3, v));
        }
        for (int k : NO_DOORS) {
            for (int is : new int[] {0, 1, -1, 2}) {
                namesNone("7 door: UNKNOWN " + k + " ahead of OUTSIDE", UNKNOWN, x -> x.door(k, is));
            }
        }
        for (int is : new int[] {-1, 2, LEAST, MOST}) {
            namesNone("7 door: OUTSIDE " + is, OUTSIDE, x -> x.door(0, is));
            namesNone("7 door that is shut: OUTSIDE " + is, OUTSIDE, x -> x.door(1, is));
            namesNone("7 the last door: OUTSIDE " + is, OUTSIDE, x -> x.door(2, is));
        }
    }

    // promises 8 to 10

    private static void breaths() {
        for (int none : NO_FOURTH) {
            namesNone("8 say: UNKNOWN gallery " + none, UNKNOWN, x -> x.say(none, 0));
            namesNone("8 say: UNKNOWN word " + none, UNKNOWN, x -> x.say(0, none));
            namesNone("8 say: UNKNOWN both " + none, UNKNOWN, x -> x.say(none, none));
            namesNone("10 blow: UNKNOWN " + none, UNKNOWN, x -> x.blow(none));
        }
        for (int n : new int[] {0, 31, -1, LEAST, MOST}) {
            namesNone("9 hush: OUTSIDE " + n, OUTSIDE, x -> x.hush(n));
            namesNone("9 hush: OUTSIDE ahead of STATE", OUTSIDE, RefusalsTest::rows, x -> x.hush(n));
        }
        for (int n = 1; n <= 30; n++) {
            int breaths = n;
            namesNone("9 hush: STATE " + n, STATE, RefusalsTest::rows, x -> x.hush(breaths));
        }
        namesNone("10 blow: STATE, FOUL is more by 1", STATE, x -> x.blow(0));
        for (int g = 1; g < 4; g++) {
            int up = g;
            namesNone("10 blow: STATE, it is not DOWN", STATE, x -> x.blow(up));
        }
        Start foulAndUp = () -> told().fouls(6, 40);
        namesNone("10 blow: STATE, it is not DOWN and FOUL is more", STATE, foulAndUp, x -> x.blow(1));
        Start clearAndSinging = () -> {
            Birds x = told().fouls(0);
            x.blow(0);
            return x;
        };
        namesNone("10 blow: STATE, it sings again", STATE, clearAndSinging, x -> x.blow(0));
    }

    // promises 11 to 13

    private static void pairCalls(String name, int most, PairCall call) {
        for (int k : NO_SHEETS) {
            for (int lane : new int[] {2, -1, 3}) {
                for (int n : new int[] {1, -1, most + 1}) {
                    namesFaults(name + ": UNKNOWN ahead of all, sheet " + k, UNKNOWN, x -> call.on(x, k, lane, -1, n));
                }
            }
            namesFaults(name + ": UNKNOWN ahead of STATE", UNKNOWN, RefusalsTest::rows, x -> call.on(x, k, 2, 0, 1));
        }
        for (int lane : NO_LANES) {
            namesFaults(name + ": OUTSIDE, lane " + lane, OUTSIDE, x -> call.on(x, 1, lane, 0, 1));
            namesFaults(name + ": lane OUTSIDE ahead of NULL", OUTSIDE, x -> call.on(x, 3, lane, 0, 1));
            namesFaults(name + ": lane OUTSIDE ahead of INDEX", OUTSIDE, x -> call.on(x, 1, lane, 7, 1));
            namesFaults(name + ": lane OUTSIDE ahead of STATE", OUTSIDE, RefusalsTest::rows, x -> call.on(x, 1, lane, 0, 1));
        }
        for (int n : new int[] {-1, most + 1, LEAST, MOST}) {
            namesFaults(name + ": OUTSIDE, n " + n, OUTSIDE, x -> call.on(x, 1, 2, 0, n));
            namesFaults(name + ": n OUTSIDE ahead of NULL", OUTSIDE, x -> call.on(x, 3, 2, 0, n));
            namesFaults(name + ": n OUTSIDE ahead of CAST", OUTSIDE, x -> call.on(x, 1, 0, 0, n));
            namesFaults(name + ": n OUTSIDE ahead of INDEX", OUTSIDE, x -> call.on(x, 1, 2, -1, n));
            namesFaults(name + ": n OUTSIDE ahead of STATE", OUTSIDE, RefusalsTest::rows, x -> call.on(x, 1, 2, 0, n));
        }
        pairFaults(name, most, call);
        unknownPairs(name, most, call);
    }

    private static void pairFaults(String name, int most, PairCall call) {
        for (Start start : new Start[] {RefusalsTest::told, RefusalsTest::rows}) {
            for (int l = 0; l < 3; l++) {
                int lane = l;
                namesFaults(name + ": nothing is no CAST", NULL, start, x -> call.on(x, 3, lane, 0, 0));
                namesFaults(name + ": NULL ahead of INDEX", NULL, start, x -> call.on(x, 3, lane, 1, 1));
                if (lane != 2) {
                    namesFaults(name + ": CAST " + lane, CAST, start, x -> call.on(x, 1, lane, 0, 1));
                    namesFaults(name + ": CAST of no pairs", CAST, start, x -> call.on(x, 1, lane, 0, 0));
                    namesFaults(name + ": CAST ahead of INDEX", CAST, start, x -> call.on(x, 1, lane, 7, 0));
                }
            }
            int[][] beyond = {{-1, 0}, {7, 0}, {LEAST, 0}, {MOST, 0}, {-1, 1}, {5, 1}, {6, 1}, {0, 4}, {1, 3}, {2, 3},
                {MOST, most}, {LEAST, most}, {MOST - 1, 1}, {MOST - 2, 1}, {0, most}};
            for (int[] b : beyond) {
                namesFaults(name + ": INDEX " + b[0] + " " + b[1], INDEX, start, x -> call.on(x, 1, 2, b[0], b[1]));
            }
            // (9, 1) is no pair of the mine, and of a third one just a half is there.
            namesFaults(name + ": INDEX ahead of a pair that is none", INDEX, start, x -> call.on(x, 2, 1, 0, 3));
        }
        for (int n = 0; n <= 3; n++) {
            int pairs = n;
            namesFaults(name + ": STATE " + n, STATE, RefusalsTest::rows, x -> call.on(x, 1, 2, 0, pairs));
        }
        namesFaults(name + ": STATE at the end", STATE, RefusalsTest::rows, x -> call.on(x, 1, 2, 6, 0));
        namesFaults(name + ": STATE ahead of a pair that is none", STATE, RefusalsTest::rows, x -> call.on(x, 2, 1, 0, 2));
    }

    /** A pair that is none, in the first, the middle and the last place, by its gallery, by its word, by both. */
    private static void unknownPairs(String name, int most, PairCall call) {
        for (int none : NO_FOURTH) {
            for (int place : new int[] {0, 2, most - 1}) {
                for (int parts = 1; parts <= 3; parts++) {
                    int[] row = new int[2 * most];
                    for (int b = 0; b < most; b++) {
                        row[2 * b] = b % 4;
                        row[2 * b + 1] = 3;
                    }
                    row[2 * place] = (parts & 1) != 0 ? none : 0;
                    row[2 * place + 1] = (parts & 2) != 0 ? none : 0;
                    Start start = () -> told().row(3, 2, row);
                    String what = name + ": UNKNOWN " + none + " in pair " + place;
                    refused(what, UNKNOWN, start, 4, 0, x -> call.on(x, 3, 2, 0, most));
                    if (place > 0) {
                        refused(what + ", the last one", UNKNOWN, start, 4, 0, x -> call.on(x, 3, 2, 0, place + 1));
                    }
                }
            }
        }
    }

    private static void whatIsAskedOfPairs() {
        for (int what : new int[] {-1, 4, 9, 16, LEAST, MOST}) {
            namesFaults("11 shift: OUTSIDE, what " + what, OUTSIDE, x -> x.shift(1, 2, 0, 1, what));
            namesFaults("11 shift: what OUTSIDE of no pairs", OUTSIDE, x -> x.shift(1, 2, 0, 0, what));
            namesFaults("11 shift: what OUTSIDE ahead of NULL", OUTSIDE, x -> x.shift(3, 2, 0, 1, what));
            namesFaults("11 shift: what OUTSIDE ahead of CAST", OUTSIDE, x -> x.shift(1, 0, 0, 1, what));
            namesFaults("11 shift: what OUTSIDE ahead of INDEX", OUTSIDE, x -> x.shift(1, 2, 6, 1, what));
            namesFaults("11 shift: what OUTSIDE ahead of a pair that is none", OUTSIDE, x -> x.shift(2, 1, 0, 2, what));
            namesFaults("11 shift: what OUTSIDE ahead of STATE", OUTSIDE, RefusalsTest::rows, x -> x.shift(1, 2, 0, 1, what));
            namesFaults("11 shift: UNKNOWN ahead of what OUTSIDE", UNKNOWN, x -> x.shift(4, 2, 0, 1, what));
        }
        for (int what = 5; what < 9; what++) {
            int between = what;
            namesFaults("11 shift: OUTSIDE, what " + what, OUTSIDE, x -> x.shift(1, 2, 0, 1, between));
        }
        for (int k : new int[] {-1, 6, LEAST, MOST}) {
            namesFaults("12 order: OUTSIDE, k " + k, OUTSIDE, x -> x.order(1, 2, 0, 1, k));
            namesFaults("12 order: k OUTSIDE of no pairs", OUTSIDE, x -> x.order(1, 2, 0, 0, k));
            namesFaults("12 order: k OUTSIDE ahead of NULL", OUTSIDE, x -> x.order(3, 2, 0, 1, k));
            namesFaults("12 order: k OUTSIDE ahead of CAST", OUTSIDE, x -> x.order(1, 0, 0, 1, k));
            namesFaults("12 order: k OUTSIDE ahead of INDEX", OUTSIDE, x -> x.order(1, 2, 6, 1, k));
            namesFaults("12 order: k OUTSIDE ahead of a pair that is none", OUTSIDE, x -> x.order(2, 1, 0, 2, k));
            namesFaults("12 order: k OUTSIDE ahead of STATE", OUTSIDE, RefusalsTest::rows, x -> x.order(1, 2, 0, 1, k));
            namesFaults("12 order: UNKNOWN ahead of k OUTSIDE", UNKNOWN, x -> x.order(4, 2, 0, 1, k));
        }
        for (int what : new int[] {-1, 2, LEAST, MOST}) {
            namesFaults("13 shut: OUTSIDE, what " + what, OUTSIDE, x -> x.shut(1, 2, 0, 1, what));
            namesFaults("13 shut: what OUTSIDE of no pairs", OUTSIDE, x -> x.shut(1, 2, 0, 0, what));
            namesFaults("13 shut: what OUTSIDE ahead of NULL", OUTSIDE, x -> x.shut(3, 2, 0, 1, what));
            namesFaults("13 shut: what OUTSIDE ahead of CAST", OUTSIDE, x -> x.shut(1, 0, 0, 1, what));
            namesFaults("13 shut: what OUTSIDE ahead of INDEX", OUTSIDE, x -> x.shut(1, 2, 6, 1, what));
            namesFaults("13 shut: what OUTSIDE ahead of a pair that is none", OUTSIDE, x -> x.shut(2, 1, 0, 2, what));
            namesFaults("13 shut: what OUTSIDE ahead of STATE", OUTSIDE, RefusalsTest::rows, x -> x.shut(1, 2, 0, 1, what));
            namesFaults("13 shut: UNKNOWN ahead of what OUTSIDE", UNKNOWN, x -> x.shut(4, 2, 0, 1, what));
        }
    }

    // promises 14 to 17

    private static void waits() {
        namesNone("14 rests: STATE", STATE, RefusalsTest::rows, x -> x.rests());
        for (int g : NO_FOURTH) {
            for (int v : new int[] {0, 40, -1, 41}) {
                namesNone("15 clears: UNKNOWN " + g + " ahead of OUTSIDE", UNKNOWN, x -> x.clears(g, v));
            }
        }
        for (int v : NO_FOULS) {
            namesNone("15 clears: OUTSIDE " + v, OUTSIDE, x -> x.clears(0, v));
            namesNone("15 clears: UNKNOWN without a mine, ahead of OUTSIDE", UNKNOWN, RefusalsTest::rows, x -> x.clears(0, v));
        }
    }

    private static void perches() {
        for (int k : new int[] {-2, 6, LEAST, MOST}) {
            namesNone("16 perches: OUTSIDE " + k, OUTSIDE, x -> x.perches(k));
            namesNone("16 perches: OUTSIDE ahead of STATE", OUTSIDE, RefusalsTest::rows, x -> x.perches(k));
        }
        for (int k = -1; k < 6; k++) {
            int seat = k;
            namesNone("16 perches: STATE " + k, STATE, RefusalsTest::rows, x -> x.perches(seat));
        }
        namesNone("16 perches: NONE, there is no such gallery", -9, x -> x.perches(4));
        namesNone("16 perches: NONE, there is no such gallery yet", -9, x -> x.perches(5));
    }

    private static void found() {
        for (int k : NO_SHEETS) {
            for (int lane : new int[] {1, -1, 3}) {
                for (int which : new int[] {0, -2, 24}) {
                    namesFaults("17 found: UNKNOWN ahead of OUTSIDE, sheet " + k, UNKNOWN, x -> x.found(k, lane, 0, which));
                    namesFaults("17 found: UNKNOWN ahead of STATE", UNKNOWN, RefusalsTest::rows, x -> x.found(k, lane, 0, which));
                }
            }
        }
        for (int lane : NO_LANES) {
            namesFaults("17 found: OUTSIDE, lane " + lane, OUTSIDE, x -> x.found(2, lane, 0, 0));
            namesFaults("17 found: lane OUTSIDE ahead of STATE", OUTSIDE, RefusalsTest::rows, x -> x.found(2, lane, 0, 0));
            namesFaults("17 found: lane OUTSIDE ahead of NULL", OUTSIDE, x -> x.found(3, lane, 0, 0));
        }
        for (int which : new int[] {-2, 24, LEAST, MOST}) {
            namesFaults("17 found: OUTSIDE, k " + which, OUTSIDE, x -> x.found(2, 1, 0, which));
            namesFaults("17 found: k OUTSIDE ahead of STATE", OUTSIDE, RefusalsTest::rows, x -> x.found(2, 1, 0, which));
            namesFaults("17 found: k OUTSIDE ahead of NULL", OUTSIDE, x -> x.found(3, 1, 0, which));
            namesFaults("17 found: k OUTSIDE ahead of CAST", OUTSIDE, x -> x.found(2, 0, 0, which));
            namesFaults("17 found: k OUTSIDE ahead of INDEX", OUTSIDE, x -> x.found(2, 1, 2, which));
        }
        namesFaults("17 found: STATE", STATE, RefusalsTest::rows, x -> x.found(2, 1, 0, 0));
        namesFaults("17 found: STATE ahead of NULL", STATE, RefusalsTest::rows, x -> x.found(3, 1, 0, 0));
        namesFaults("17 found: STATE ahead of CAST", STATE, RefusalsTest::rows, x -> x.found(2, 0, 0, 0));
        namesFaults("17 found: STATE ahead of INDEX", STATE, RefusalsTest::rows, x -> x.found(2, 1, -1, 0));
        for (int l = 0; l < 3; l++) {
            int lane = l;
            namesFaults("17 found: nothing is no CAST", NULL, x -> x.found(3, lane, 0, 0));
            namesFaults("17 found: NULL ahead of INDEX", NULL, x -> x.found(3, lane, -1, 0));
            if (lane != 1) {
                namesFaults("17 found: CAST " + lane, CAST, x -> x.found(2, lane, 0, 0));
                namesFaults("17 found: CAST ahead of INDEX", CAST, x -> x.found(2, lane, 2, 0));
            }
        }
        for (int i : new int[] {-1, 2, 3, 5, 6, LEAST, MOST, MOST - 3}) {
            namesFaults("17 found: INDEX from " + i, INDEX, x -> x.found(2, 1, i, -1));
        }
        namesFaults("17 found: the last cells that are enough", 0, x -> x.found(2, 1, 1, -1));
    }

    // promises 18 to 22

    private static void readings() {
        for (Start start : new Start[] {RefusalsTest::told, RefusalsTest::eightReadings}) {
            for (int g : NO_FOURTH) {
                for (int foul : new int[] {0, -1, 41}) {
                    for (int dropped : new int[] {0, -1, 2}) {
                        namesNone("18 reading: UNKNOWN ahead of all, " + g, UNKNOWN, start, x -> x.reading(g, foul, dropped));
                    }
                }
            }
            for (int foul : NO_FOULS) {
                namesNone("18 reading: OUTSIDE ahead of FULL, foul " + foul, OUTSIDE, start, x -> x.reading(0, foul, 0));
            }
            for (int dropped : new int[] {-1, 2, LEAST, MOST}) {
                namesNone("18 reading: OUTSIDE ahead of FULL, dropped " + dropped, OUTSIDE, start, x -> x.reading(3, 40, dropped));
            }
        }
        for (int g = 0; g < 4; g++) {
            int any = g;
            namesNone("18 reading: FULL", FULL, RefusalsTest::eightReadings, x -> x.reading(any, 0, 0));
            namesNone("18 reading: FULL", FULL, RefusalsTest::eightReadings, x -> x.reading(any, 40, 1));
        }
        for (int k : new int[] {-1, 2, 8, LEAST, MOST}) {
            namesNone("19 back: OUTSIDE " + k + " of 1", OUTSIDE, x -> x.back(k));
        }
        for (int k : new int[] {-1, 9, LEAST, MOST}) {
            namesNone("19 back: OUTSIDE " + k + " of 8", OUTSIDE, RefusalsTest::eightReadings, x -> x.back(k));
        }
        for (int k : new int[] {-1, 1, 8}) {
            namesNone("19 back: OUTSIDE " + k + " without a mine", OUTSIDE, RefusalsTest::rows, x -> x.back(k));
        }
    }

    private static void strengthsKindsOdds() {
        for (int g : NO_FOURTH) {
            namesNone("20 strengths: UNKNOWN " + g, UNKNOWN, x -> x.strengths(g));
            namesNone("21 kinds: UNKNOWN " + g, UNKNOWN, x -> x.kinds(g));
            for (int which : new int[] {0, 1, -1, 2}) {
                namesNone("22 odds: LOST, UNKNOWN " + g, LOST, x -> x.odds(g, which));
            }
        }
        for (int which : new int[] {-1, 2, LEAST, MOST}) {
            namesNone("22 odds: LOST, OUTSIDE " + which, LOST, x -> x.odds(0, which));
        }
    }

    // promises 23 to 27

    private static void sheets() {
        for (int k : NO_SHEETS) {
            for (int lane : new int[] {0, -1, 3}) {
                for (int n : new int[] {0, -1, 61}) {
                    namesFaults("23 sheet: UNKNOWN ahead of all, " + k, UNKNOWN, x -> x.sheet(k, lane, n));
                }
            }
            namesNone("24 lose: UNKNOWN " + k, UNKNOWN, x -> x.lose(k));
        }
        namesNone("24 lose: it had nothing", 0, x -> x.lose(3));
        for (int k = 0; k < 4; k++) {
            int sheet = k;
            for (int lane : NO_LANES) {
                for (int n : new int[] {0, 60, 61, -1, LEAST}) {
                    namesFaults("23 sheet: OUTSIDE ahead of SIZE, lane " + lane, OUTSIDE, x -> x.sheet(sheet, lane, n));
                }
            }
            for (int l = 0; l < 3; l++) {
                int lane = l;
                namesFaults("23 sheet: OUTSIDE, n 61", OUTSIDE, x -> x.sheet(sheet, lane, 61));
                namesFaults("23 sheet: OUTSIDE, n far", OUTSIDE, x -> x.sheet(sheet, lane, MOST));
                refused("23 sheet: SIZE -1", SIZE, RefusalsTest::told, 1, 4, x -> x.sheet(sheet, lane, -1));
                refused("23 sheet: SIZE far", SIZE, RefusalsTest::told, 1, 4, x -> x.sheet(sheet, lane, LEAST));
            }
        }
    }

    private static void puts() {
        for (int k : NO_SHEETS) {
            for (int i : new int[] {0, -1, 60}) {
                namesFaults("25 put: UNKNOWN ahead of all, " + k, UNKNOWN, x -> x.put(k, i, 1));
            }
        }
        for (int i : new int[] {0, -1, 1, LEAST, MOST}) {
            namesFaults("25 put: NULL ahead of INDEX, " + i, NULL, x -> x.put(3, i, 1));
        }
        int[] lengths = {25, 6, 5};
        for (int k = 0; k < 3; k++) {
            int sheet = k;
            for (int i : new int[] {-1, lengths[k], lengths[k] + 1, 60, LEAST, MOST}) {
                namesFaults("25 put: INDEX " + i + " of sheet " + k, INDEX, x -> x.put(sheet, i, 1));
            }
        }
        Start empty = () -> told().row(3, 1);
        refused("25 put: INDEX of an empty row", INDEX, empty, 4, 3, x -> x.put(3, 0, 1));
        Start full = () -> told().row(3, 1, new int[60]);
        refused("25 put: INDEX of a full row", INDEX, full, 4, 3, x -> x.put(3, 60, 1));
    }

    private static void cells() {
        for (int i : new int[] {0, -1, 60}) {
            for (int k : NO_SHEETS) {
                refused("26 cell: LOST, UNKNOWN " + k, LOST, RefusalsTest::told, 4, 0, x -> x.cell(k, i, 0));
                refused("26 cell: LOST, UNKNOWN and OUTSIDE", LOST, RefusalsTest::told, 4, 0, x -> x.cell(k, i, 3));
            }
            for (int lane : NO_LANES) {
                refused("26 cell: LOST, OUTSIDE " + lane, LOST, RefusalsTest::told, 4, 0, x -> x.cell(0, i, lane));
                refused("26 cell: LOST, OUTSIDE ahead of NULL", LOST, RefusalsTest::told, 4, 0, x -> x.cell(3, i, lane));
            }
            for (int l = 0; l < 3; l++) {
                int lane = l;
                refused("26 cell: nothing is no CAST", LOST, RefusalsTest::told, 4, 1, x -> x.cell(3, i, lane));
            }
            refused("26 cell: LOST, CAST of bytes ahead of INDEX", LOST, RefusalsTest::told, 4, 2, x -> x.cell(0, i, 1));
            refused("26 cell: LOST, CAST of ints ahead of INDEX", LOST, RefusalsTest::told, 4, 2, x -> x.cell(1, i, 1));
            refused("26 cell: LOST, CAST of shorts ahead of INDEX", LOST, RefusalsTest::told, 4, 2, x -> x.cell(2, i, 2));
        }
        for (int i : new int[] {-1, 25, 26, LEAST, MOST}) {
            refused("26 cell: LOST, INDEX " + i, LOST, RefusalsTest::told, 4, 3, x -> x.cell(0, i, 0));
        }
        refused("26 cell: LOST, INDEX of an empty row", LOST, () -> told().row(3, 2), 4, 3, x -> x.cell(3, 0, 2));
        refused("26 cell: LOST, INDEX of a full row", LOST, () -> told().row(3, 2, new int[60]), 4, 3, x -> x.cell(3, 60, 2));
    }

    private static void copies() {
        for (int k : NO_SHEETS) {
            for (int n : new int[] {0, -1, 99}) {
                namesFaults("27 copy: UNKNOWN, the first " + k, UNKNOWN, x -> x.copy(k, -1, 3, 0, n));
                namesFaults("27 copy: UNKNOWN, the other " + k, UNKNOWN, x -> x.copy(3, -1, k, 0, n));
                namesFaults("27 copy: UNKNOWN, both", UNKNOWN, x -> x.copy(k, 0, k, 0, n));
            }
        }
        for (int n : new int[] {0, -1, 99}) {
            namesFaults("27 copy: NULL, the first, ahead of INDEX", NULL, x -> x.copy(3, 0, 0, 0, n));
            namesFaults("27 copy: NULL, the other, ahead of INDEX", NULL, x -> x.copy(0, 0, 3, 0, n));
            namesFaults("27 copy: NULL, both", NULL, x -> x.copy(3, 0, 3, 0, n));
            namesFaults("27 copy: CAST of bytes and ints ahead of INDEX", CAST, x -> x.copy(0, 0, 1, 0, n));
            namesFaults("27 copy: CAST of ints and shorts ahead of INDEX", CAST, x -> x.copy(1, 0, 2, 0, n));
            namesFaults("27 copy: CAST of shorts and bytes ahead of INDEX", CAST, x -> x.copy(2, 0, 0, 0, n));
        }
        Start like = () -> told().row(3, 2, 7, 7, 7);
        int[][] beyond = {{-1, 0, 0}, {0, -1, 0}, {0, 0, -1}, {7, 0, 0}, {0, 4, 0}, {6, 0, 1}, {0, 3, 1}, {4, 0, 3},
            {0, 1, 3}, {0, 0, 4}, {MOST, 0, 1}, {0, MOST, 1}, {1, 1, MOST}, {LEAST, 0, 0}, {0, LEAST, 0}, {0, 0, LEAST},
            {-1, 0, 1}, {0, -1, 1}, {1, 1, -1}, {MOST, MOST, MOST}, {LEAST, LEAST, LEAST}, {-1, 0, MOST}};
        for (int[] b : beyond) {
            String what = "27 copy: INDEX " + b[0] + " " + b[1] + " " + b[2];
            refused(what, INDEX, like, 4, 3, x -> x.copy(1, b[0], 3, b[1], b[2]));
        }
        // The same sheet, and rows that differ in length the other way round.
        refused("27 copy: INDEX on itself, i", INDEX, like, 4, 3, x -> x.copy(3, 2, 3, 0, 2));
        refused("27 copy: INDEX on itself, j", INDEX, like, 4, 3, x -> x.copy(3, 0, 3, 2, 2));
        refused("27 copy: INDEX of the shorter one", INDEX, like, 4, 3, x -> x.copy(3, 0, 1, 0, 4));
        refused("27 copy: INDEX behind the shorter one", INDEX, like, 4, 3, x -> x.copy(3, 4, 1, 0, 0));
    }

    // promises 28 to 33

    private static void tellings() {
        for (int g : NO_FOURTH) {
            namesNone("28 tell: UNKNOWN leaves no trace, " + g, UNKNOWN, x -> x.tell(g));
            namesNone("29 sign: UNKNOWN leaves no trace, " + g, UNKNOWN, x -> x.sign(g));
        }
    }

    private static void kindsAndNumbers() {
        for (int g : NO_FOURTH) {
            for (int kind : new int[] {0, 2, -1, 3}) {
                namesFaults("30 as: UNKNOWN " + g + " ahead of OUTSIDE", UNKNOWN, x -> x.as(g, kind));
            }
        }
        for (int g = 0; g < 4; g++) {
            int bird = g;
            for (int kind : new int[] {-1, 3, LEAST, MOST}) {
                namesFaults("30 as: OUTSIDE " + kind + " of " + g, OUTSIDE, x -> x.as(bird, kind));
            }
        }
        namesFaults("30 as: a GREY one is no GREEN one", CAST, x -> x.as(0, 1));
        namesFaults("30 as: a GREY one is no BRIGHT one", CAST, x -> x.as(0, 2));
        namesFaults("30 as: a GREEN one is no BRIGHT one", CAST, x -> x.as(1, 2));
        for (int kind = 0; kind < 3; kind++) {
            int any = kind;
            namesFaults("30 as: a BRIGHT one is one of " + kind, 1, x -> x.as(2, any));
        }
        namesFaults("30 as: a GREEN one is a GREY one, too", 1, x -> x.as(1, 0));
        namesFaults("30 as: a GREEN one", 1, x -> x.as(1, 1));
        namesFaults("30 as: a GREY one", 1, x -> x.as(0, 0));
        for (int what : new int[] {-1, 5, LEAST, MOST}) {
            namesNone("33 many: OUTSIDE " + what, OUTSIDE, x -> x.many(what));
            namesNone("33 many: OUTSIDE without a mine " + what, OUTSIDE, RefusalsTest::rows, x -> x.many(what));
        }
    }

    /** A call that names FAULTS and comes to none tells 0; one that names none leaves what the latest told. */
    private static void faultBehindAll() {
        Call[] naming = {x -> x.mine(0, 0, 0, 25), x -> x.mine(0, 0, 0, 1), x -> x.shift(1, 2, 0, 3, 0),
            x -> x.order(1, 2, 0, 3, 0), x -> x.shut(1, 2, 0, 3, 0), x -> x.found(2, 1, 0, 0), x -> x.sheet(0, 0, 1),
            x -> x.put(0, 0, 0), x -> x.cell(0, 0, 0), x -> x.copy(0, 0, 0, 0, 0), x -> x.as(0, 0)};
        for (int c = 0; c < naming.length; c++) {
            Birds x = told();
            provoke(x, 4);
            naming[c].on(x);
            Checks.due("32 a call that names FAULTS and comes to none: " + c, 0, x.fault());
        }
        Call[] others = {x -> x.ofGallery(0, 0), x -> x.bad(0), x -> x.foul(0, 0), x -> x.breed(0, 1), x -> x.door(0, 0),
            x -> x.say(0, 0), x -> x.hush(1), x -> x.blow(0), x -> x.rests(), x -> x.clears(0, 0), x -> x.perches(0),
            x -> x.reading(0, 0, 0), x -> x.back(0), x -> x.strengths(0), x -> x.kinds(0), x -> x.odds(0, 0),
            x -> x.lose(0), x -> x.tell(0), x -> x.sign(0), x -> x.trace(), x -> x.fault(), x -> x.many(0)};
        for (int c = 0; c < others.length; c++) {
            Birds x = told();
            provoke(x, 4);
            others[c].on(x);
            Checks.due("32 a call that names no FAULTS leaves it: " + c, 4, x.fault());
        }
    }
}
