/** The bounds that the document's terms name about things, SHEETS and SHELVES, and promises 41 to 50: a test for each sentence. */
public final class HostBoundsTest {
    private static final int[] OUTSIDE_PLACES = {Integer.MIN_VALUE, -1, 4, 5, Integer.MAX_VALUE};
    /** For each KIND 1 to 5, for each ACT: the bodies that run, if none breaks. */
    private static final int[][][] BODIES = {
        {{20, 10}, {11, 20, 10}, {12}, {13, 11, 20, 10, 12}},
        {{10}, {30, 11, 10}, {12}, {13, 30, 11, 10, 12}},
        {{50, 10}, {30, 11, 50, 10}, {12}, {51, 13, 30, 11, 50, 10, 12, 30, 11, 50, 10}},
        {{10}, {11, 10}, {40, 12}, {13, 11, 10, 40, 12}},
        {{10}, {60, 11, 10}, {61, 40, 12, 10}, {13, 60, 11, 10, 61, 40, 12, 10}}};
    private static final int[] XS = {0, 1, -1, 7, -7, 10, 1 << 28, (1 << 28) - 1, -(1 << 28) - 1, 715827883,
        Integer.MAX_VALUE, Integer.MIN_VALUE, Integer.MIN_VALUE + 9};

    public static void main(String[] args) {
        actsOfThings();
        heldByKind();
        bodiesOfKey();
        partedByZero();
        bodiesOfTheOthers();
        traceTerm();
        sheetsTerm();
        shelvesTerm();
        sheet();
        write();
        item();
        itemsAsLow();
        goAll();
        goAllLeavesOut();
        goAllRefuses();
        wouldBe();
        wouldBeByItems();
        shelf();
        taken();
        act();
        trace();
        many();
        Check.end("HostBoundsTest");
    }

    private static void due(String call, long got, long want) {
        Check.due(call, got, want);
    }

    /** SHELF 0 holds KEY number n, of a KIND and GATE; those ahead of it are irons. */
    private static IceKeys thing(int kind, int n, int gate) {
        IceKeys x = new IceKeys();
        for (int k = 0; k <= n; k++) {
            x.key(k == n ? kind : 1, 50, 0, k == n ? gate : 5);
        }
        x.shelf(0, 0, n);
        return x;
    }

    /** What an ACT answers, told once more in long, whose lowest 32 bits are the int that wraps; behind halves() an int again. */
    private static int answer(int kind, int n, int a, int act, int x) {
        long drips = kind == 3 ? (x - 10L) * 8 + n : kind == 1 ? (int) (x * 8L + n) ^ 26 : x * 8L + n;
        long turns = (drips - 5L * a) * (kind == 2 || kind == 3 ? 3 : kind == 5 ? -1 : 1);
        int by = a - n + 3;
        long halves = by == 0 ? 0 : x % by;
        halves += kind == 4 ? -9 : kind == 5 ? -9 + 9L * n : 0;
        if (by == 0 && act >= 2) {
            return -15;
        }
        long turnsOfGate = (8L * (a - 10) + n - 5L * a) * 3;
        long fits = kind == 3 ? (int) (turns + halves) ^ turnsOfGate : turns + halves;
        return (int) new long[] {drips, turns, halves, fits}[act];
    }

    private static void actOf(String sentence, int kind, int n, int gate, int act, int x) {
        IceKeys keys = thing(kind, n, gate);
        String name = sentence + ": KIND " + kind + ", n " + n + ", a " + gate + ", ACT " + act + " by " + x;
        due(name, keys.act(0, act, x), answer(kind, n, gate, act, x));
        int ran = 0;
        for (int body : BODIES[kind - 1][act]) {
            due(name + ", body " + ran, keys.trace(ran), body);
            ran++;
            if (body == 12 && gate - n + 3 == 0) {
                break;
            }
        }
        due(name + ", no more bodies", keys.many(6), ran);
        due(name + ", no more bodies", keys.trace(ran), -3);
    }

    // DOC T3: ACTS of a thing by its KIND, with a number x (ints that wrap): 0 drips, 1 turns, 2 halves, 3 fits.
    private static void actsOfThings() {
        for (int kind = 1; kind <= 5; kind++) {
            for (int act = 0; act <= 3; act++) {
                for (int x : XS) {
                    actOf("T3", kind, 1, 2, act, x);
                    actOf("T3", kind, 0, 5, act, x);
                }
            }
        }
        // ints that wrap, by hand: 8 times 2^28 is -2^31; 8 times the most is -8; 3 times (-2^31) is -2^31
        due("T3: drips wraps", thing(4, 0, 0).act(0, 0, 1 << 28), Integer.MIN_VALUE);
        due("T3: drips wraps", thing(4, 0, 0).act(0, 0, Integer.MAX_VALUE), -8);
        due("T3: turns wraps", thing(2, 0, 0).act(0, 1, 1 << 28), Integer.MIN_VALUE);
        due("T3: 0 less the least is the least", thing(5, 0, 0).act(0, 1, 1 << 28), Integer.MIN_VALUE);
        due("T3: x less 10 wraps", thing(3, 0, 0).act(0, 0, Integer.MIN_VALUE), -80);
    }

    // DOC T3: A KEY is held as a thing of its KIND; n: its number, a: its GATE.
    private static void heldByKind() {
        for (int n = 0; n <= 5; n++) {
            for (int gate = 0; gate <= 5; gate++) {
                for (int kind = 1; kind <= 5; kind++) {
                    actOf("T3", kind, n, gate, 3, 77);
                }
            }
        }
        IceKeys x = thing(1, 0, 0);
        due("T3: an iron", x.act(0, 0, 1), 18);
        x.remake(0, 3);
        due("T3: a third now", x.act(0, 0, 1), -72);
        x.change(0, 3, 5);
        due("T3: of GATE 5 now", x.act(0, 1, 10), -75);
    }

    // DOC T3: BODIES, each with its number: key: 10 drips: x * 8 + n. 11 turns: drips(x) - 5 * a.
    private static void bodiesOfKey() {
        for (int n = 0; n <= 5; n++) {
            for (int gate = 0; gate <= 5; gate++) {
                actOf("T3", 4, n, gate, 0, 3);
                actOf("T3", 4, n, gate, 1, 3);
            }
        }
        due("T3: 3 times 8, and 5", thing(4, 5, 5).act(0, 0, 3), 29);
        due("T3: less 25", thing(4, 5, 5).act(0, 1, 3), 4);
    }

    // DOC T3: 12 halves: what x leaves by (a - n + 3), below 0 if x is (-15 if that is 0; that is all that act() answers then). 13 fits: turns(x) + halves(x).
    private static void partedByZero() {
        for (int n = 0; n <= 5; n++) {
            for (int gate = 0; gate <= 5; gate++) {
                for (int kind = 1; kind <= 5; kind++) {
                    for (int x : new int[] {-9, 9, 0}) {
                        actOf("T3", kind, n, gate, 2, x);
                        actOf("T3", kind, n, gate, 3, x);
                    }
                }
            }
        }
        // by hand: by -2, -1, 0, 1, 8
        due("T3: 7 by -2", thing(1, 5, 0).act(0, 2, 7), 1);
        due("T3: -7 by -2", thing(1, 5, 0).act(0, 2, -7), -1);
        due("T3: -8 by -2", thing(1, 5, 0).act(0, 2, -8), 0);
        due("T3: the least by -1", thing(1, 5, 1).act(0, 2, Integer.MIN_VALUE), 0);
        due("T3: 7 by 0", thing(1, 5, 2).act(0, 2, 7), -15);
        due("T3: 0 by 0", thing(1, 3, 0).act(0, 2, 0), -15);
        due("T3: 7 by 1", thing(1, 5, 3).act(0, 2, 7), 0);
        due("T3: -9 by 8", thing(1, 0, 5).act(0, 2, -9), -1);
        // all that act() answers, whatever is put on top of it
        for (int kind = 1; kind <= 5; kind++) {
            due("T3: halves by 0, KIND " + kind, thing(kind, 4, 1).act(0, 2, 7), -15);
            due("T3: fits by 0, KIND " + kind, thing(kind, 4, 1).act(0, 3, 7), -15);
            due("T3: drips doesn't part, KIND " + kind, thing(kind, 4, 1).act(0, 0, 7) == -15 ? 1 : 0, 0);
            IceKeys x = thing(kind, 3, 0);
            due("T3: broken", x.act(0, 3, 7), -15);
            due("T3: not the next one", x.act(0, 1, 7), answer(kind, 3, 0, 1, 7));
        }
    }

    // DOC T3: iron: 20 drips: super.drips(x) ^ 26. sleeve: 30 turns: super.turns(x) * 3. salt: 40 halves: super.halves(x) - 9. third: 50 drips: super.drips(x - 10). 51 fits: super.fits(x) ^ turns(a). spare: 60 turns: 0 - super.turns(x). 61 halves: super.halves(x) + drips(n).
    private static void bodiesOfTheOthers() {
        for (int kind = 1; kind <= 5; kind++) {
            for (int act = 0; act <= 3; act++) {
                for (int x = -12; x <= 12; x++) {
                    actOf("T3", kind, 2, 4, act, x);
                }
            }
        }
        due("T3: 20 by hand", thing(1, 2, 4).act(0, 0, 3), 0);
        due("T3: 30 by hand", thing(2, 2, 4).act(0, 1, 3), 18);
        due("T3: 40 by hand", thing(4, 2, 4).act(0, 2, 3), -6);
        due("T3: 50 by hand", thing(3, 2, 4).act(0, 0, 3), -54);
        due("T3: 51 by hand", thing(3, 2, 4).act(0, 3, 3), (-222 + 3) ^ -198);
        due("T3: 60 by hand", thing(5, 2, 4).act(0, 1, 3), -6);
        due("T3: 61 by hand", thing(5, 2, 4).act(0, 2, 3), 12);
    }

    // DOC T3: THE TRACE: numbers of the bodies that ran in the latest act(), as they began (left first); the first 30 are kept.
    private static void traceTerm() {
        IceKeys x = thing(3, 2, 4);
        due("T3: no TRACE yet", x.many(6), 0);
        x.act(0, 3, 3);
        // the most that any act() runs
        int[] longest = {51, 13, 30, 11, 50, 10, 12, 30, 11, 50, 10};
        due("T3: how many", x.many(6), longest.length);
        for (int i = 0; i < longest.length; i++) {
            due("T3: body " + i, x.trace(i), longest[i]);
        }
        x.act(0, 2, 3);
        due("T3: the latest alone", x.many(6), 1);
        due("T3: the latest", x.trace(0), 12);
        due("T3: nothing of the one ahead of it", x.trace(1), -3);
        // three acts behind one another aren't one TRACE
        for (int i = 0; i < 4; i++) {
            x.act(0, 3, 3);
        }
        due("T3: of the latest alone", x.many(6), 11);
        // those that began ahead of a break have run
        IceKeys broken = thing(5, 5, 2);
        broken.act(0, 3, 3);
        int[] began = {13, 60, 11, 10, 61, 40, 12};
        due("T3: ahead of a break", broken.many(6), began.length);
        for (int i = 0; i < began.length; i++) {
            due("T3: body " + i, broken.trace(i), began[i]);
        }
    }

    // DOC T3: SHEETS 0 to 3 are rows of bytes (sort 0), shorts (1), ints (2), longs (3) or booleans (4), 40 at most, or missing (at first).
    private static void sheetsTerm() {
        IceKeys x = new IceKeys();
        for (int sheet = 0; sheet <= 3; sheet++) {
            for (int sort = 0; sort <= 4; sort++) {
                due("T3: missing at first", x.item(sheet, sort, 0), -11);
            }
            due("T3: missing at first", x.write(sheet, 0, 0), -11);
            due("T3: missing at first", x.goAll(sheet, 0, 0), -11);
            due("T3: missing at first", x.wouldBe(sheet, 0, 0), -11);
        }
        for (int sheet : OUTSIDE_PLACES) {
            due("T3: no SHEET " + sheet, x.sheet(sheet, 0, 1), -1);
        }
        // each has its own items
        for (int sheet = 0; sheet <= 3; sheet++) {
            due("T3: a SHEET", x.sheet(sheet, 2, 10 * sheet + 10), 1);
            x.write(sheet, 0, 100 + sheet);
            x.write(sheet, 10 * sheet + 9, 200 + sheet);
        }
        for (int sheet = 0; sheet <= 3; sheet++) {
            due("T3: its first item", x.item(sheet, 2, 0), 100 + sheet);
            due("T3: its last item", x.item(sheet, 2, 10 * sheet + 9), 200 + sheet);
            due("T3: no more", x.item(sheet, 2, 10 * sheet + 10), -12);
        }
        for (int sort = 0; sort <= 4; sort++) {
            due("T3: 40, sort " + sort, new IceKeys().sheet(0, sort, 40), 1);
            due("T3: 41, sort " + sort, new IceKeys().sheet(0, sort, 41), -1);
        }
    }

    // DOC T3: SHELVES 0 to 3 hold a KEY (by its number; nothing, if there is no such one at the time), a SHEET's row, or nothing (at first).
    private static void shelvesTerm() {
        IceKeys x = new IceKeys();
        for (int shelf = 0; shelf <= 3; shelf++) {
            for (int as : new int[] {0, 1, 2, 3, 4, 5, 10, 11, 12, 13, 14}) {
                due("T3: nothing at first", x.taken(shelf, as), -11);
            }
            due("T3: nothing at first", x.act(shelf, 0, 1), 0);
        }
        for (int shelf : OUTSIDE_PLACES) {
            due("T3: no SHELF " + shelf, x.shelf(shelf, 2, 0), -1);
        }
        // each holds its own
        x.keep();
        for (int k = 0; k < 4; k++) {
            x.key(1, 50, 0, 0);
            due("T3: a KEY", x.shelf(3 - k, 0, k), 1);
        }
        for (int k = 0; k < 4; k++) {
            due("T3: by its number", x.taken(3 - k, 1), k);
        }
        x.again();
        for (int shelf = 0; shelf <= 3; shelf++) {
            due("T3: no such KEY at the time", x.taken(shelf, 0), -11);
            due("T3: no such KEY at the time", x.taken(shelf, 10), -11);
            due("T3: no such KEY at the time", x.act(shelf, 0, 1), 0);
        }
        x.key(5, 50, 0, 0);
        due("T3: another of that number", x.taken(3, 5), 0);
        due("T3: a drip of a spare", x.act(3, 0, 1), 8);
        due("T3: not those above", x.taken(2, 0), -11);
    }

    // DOC 41: A SHEET becomes a row of n of a sort, all 0, or missing (sort -1; n counts nothing then): 1. BAD: no such SHEET, sort, n above 40; -14.
    private static void sheet() {
        Check.edges("41: SHEET", 0, 3, -1, sheet -> new IceKeys().sheet(sheet, 0, 1));
        Check.edges("41: SHEET, missing", 0, 3, -1, sheet -> new IceKeys().sheet(sheet, -1, 1));
        Check.edges("41: sort", -1, 4, -1, sort -> new IceKeys().sheet(0, sort, 1));
        for (int sort = 0; sort <= 4; sort++) {
            for (int n = 0; n <= 40; n++) {
                IceKeys x = new IceKeys();
                due("41: n " + n, x.sheet(2, sort, n), 1);
                due("41: the last is 0", x.item(2, sort, n - 1), n == 0 ? -12 : 0);
                due("41: no more", x.item(2, sort, n), -12);
            }
            due("41: n 41", new IceKeys().sheet(2, sort, 41), -1);
            due("41: n the most", new IceKeys().sheet(2, sort, Integer.MAX_VALUE), -1);
            due("41: n -1", new IceKeys().sheet(2, sort, -1), -14);
            due("41: n the least", new IceKeys().sheet(2, sort, Integer.MIN_VALUE), -14);
        }
        for (int n : new int[] {Integer.MIN_VALUE, -1, 0, 40, 41, Integer.MAX_VALUE}) {
            IceKeys x = new IceKeys();
            x.sheet(1, 2, 5);
            due("41: missing, n " + n, x.sheet(1, -1, n), 1);
            due("41: missing", x.item(1, 2, 0), -11);
        }
        due("41: no such SHEET ahead of -14", new IceKeys().sheet(4, 0, -1), -1);
        due("41: no such SHEET ahead of -14", new IceKeys().sheet(-1, 0, -1), -1);
        due("41: no such sort ahead of -14", new IceKeys().sheet(0, 5, -1), -1);
        due("41: no such sort ahead of -14", new IceKeys().sheet(0, -2, -1), -1);
        // all 0, whatever stood there, as far as it goes
        for (int sort = 0; sort <= 4; sort++) {
            IceKeys x = new IceKeys();
            x.sheet(0, 2, 40);
            for (int i = 0; i < 40; i++) {
                x.write(0, i, 77);
            }
            x.sheet(0, sort, 40);
            for (int i = 0; i < 40; i++) {
                due("41: all 0", x.item(0, sort, i), 0);
            }
        }
        // missing and back: nothing of what stood there
        IceKeys x = new IceKeys();
        x.sheet(0, 2, 2);
        x.write(0, 1, 9);
        x.sheet(0, -1, 0);
        x.sheet(0, 2, 2);
        due("41: all 0 behind missing", x.item(0, 2, 1), 0);
        // a refusal leaves it
        x.write(0, 1, 9);
        due("41: n above 40", x.sheet(0, 1, 41), -1);
        due("41: n below 0", x.sheet(0, 1, -1), -14);
        due("41: as it was", x.item(0, 2, 1), 9);
        due("41: as long as it was", x.item(0, 2, 2), -12);
    }

    // DOC 42: Item i becomes v, narrowed to its sort (booleans: whether it is not 0): 1. BAD: no such SHEET; -11; -12.
    private static void write() {
        Check.edges("42: SHEET", 0, 3, -1, sheet -> new IceKeys().write(sheet, 0, 0));
        int[][] bytes = {{127, 127}, {128, -128}, {-128, -128}, {-129, 127}, {255, -1}, {256, 0}, {257, 1},
            {Integer.MAX_VALUE, -1}, {Integer.MIN_VALUE, 0}};
        int[][] shorts = {{32767, 32767}, {32768, -32768}, {-32768, -32768}, {-32769, 32767}, {65535, -1}, {65536, 0},
            {Integer.MAX_VALUE, -1}, {Integer.MIN_VALUE, 0}};
        int[][] ints = {{0, 0}, {-1, -1}, {65536, 65536}, {Integer.MAX_VALUE, Integer.MAX_VALUE},
            {Integer.MIN_VALUE, Integer.MIN_VALUE}};
        int[][] booleans = {{0, 0}, {1, 1}, {-1, 1}, {2, 1}, {256, 1}, {65536, 1}, {Integer.MIN_VALUE, 1}};
        int[][][] narrowed = {bytes, shorts, ints, ints, booleans};
        for (int sort = 0; sort <= 4; sort++) {
            IceKeys x = new IceKeys();
            due("42: missing", x.write(0, 0, 1), -11);
            x.sheet(0, sort, 3);
            for (int[] pair : narrowed[sort]) {
                due("42: write", x.write(0, 1, pair[0]), 1);
                due("42: " + pair[0] + " of sort " + sort, x.item(0, sort, 1), pair[1]);
            }
            due("42: the one ahead stays", x.item(0, sort, 0), 0);
            due("42: the one behind stays", x.item(0, sort, 2), 0);
            due("42: back to 0", x.write(0, 1, 0), 1);
            due("42: 0", x.item(0, sort, 1), 0);
        }
        for (int n : new int[] {0, 1, 40}) {
            IceKeys x = new IceKeys();
            x.sheet(3, 0, n);
            for (int i = 0; i < n; i++) {
                due("42: item " + i + " of " + n, x.write(3, i, 1), 1);
            }
            for (int i : new int[] {Integer.MIN_VALUE, -1, n, n + 1, 40, Integer.MAX_VALUE}) {
                due("42: item " + i + " of " + n, x.write(3, i, 1), -12);
            }
        }
        due("42: no such SHEET ahead of -12", new IceKeys().write(4, -1, 0), -1);
        due("42: -11 ahead of -12", new IceKeys().write(0, -1, 0), -11);
        due("42: -11 ahead of -12", new IceKeys().write(0, 40, 0), -11);
        // no room is left of a longer row
        IceKeys x = new IceKeys();
        x.sheet(0, 0, 40);
        x.sheet(0, 0, 5);
        due("42: the last of five", x.write(0, 4, 1), 1);
        due("42: outside five", x.write(0, 5, 1), -12);
    }

    // DOC 43: Item i, taken for a sort (0 to 4; of longs the lowest 32 bits; of booleans 1, 0). BAD: no such SHEET, sort; -13; -11; -12.
    private static void item() {
        Check.edges("43: SHEET", 0, 3, -1, sheet -> new IceKeys().item(sheet, 0, 0));
        Check.edges("43: sort", 0, 4, -1, sort -> new IceKeys().item(0, sort, 0));
        for (int sort = 0; sort <= 4; sort++) {
            IceKeys x = new IceKeys();
            due("43: -11", x.item(0, sort, 0), -11);
            due("43: -11 ahead of -12", x.item(0, sort, 40), -11);
            due("43: -11 ahead of -12", x.item(0, sort, -1), -11);
            x.sheet(0, sort, 2);
            x.write(0, 1, 1);
            for (int as = 0; as <= 4; as++) {
                boolean same = as == sort;
                due("43: sort " + sort + " taken for " + as, x.item(0, as, 1), same ? 1 : -13);
                due("43: -13 ahead of -12", x.item(0, as, 2), same ? -12 : -13);
                due("43: -13 ahead of -12", x.item(0, as, -1), same ? -12 : -13);
            }
            due("43: far outside", x.item(0, sort, Integer.MAX_VALUE), -12);
            due("43: far outside", x.item(0, sort, Integer.MIN_VALUE), -12);
            due("43: no such sort ahead of -12", x.item(0, 5, 2), -1);
            due("43: no such sort ahead of -12", x.item(0, -1, 2), -1);
            x.sheet(0, -1, 0);
            due("43: missing again", x.item(0, sort, 1), -11);
        }
        due("43: no such sort ahead of -11", new IceKeys().item(0, 5, 0), -1);
        due("43: no such SHEET ahead of -11", new IceKeys().item(4, 0, 0), -1);
        IceKeys x = new IceKeys();
        x.sheet(0, 3, 1);
        for (int v : new int[] {Integer.MIN_VALUE, -1, 0, Integer.MAX_VALUE}) {
            x.write(0, 0, v);
            due("43: of longs the lowest 32 bits", x.item(0, 3, 0), v);
        }
    }

    // DOC 43: (An item may be as low as these, too.)
    private static void itemsAsLow() {
        IceKeys x = new IceKeys();
        for (int sort = 0; sort <= 3; sort++) {
            x.sheet(0, sort, 1);
            for (int v : new int[] {-1, -11, -12, -13, -14, -15}) {
                due("43: taken", x.write(0, 0, v), 1);
                due("43: as low as a refusal", x.item(0, sort, 0), v);
            }
        }
    }

    private static IceKeys withSheet(int... acts) {
        IceKeys x = Check.twoIrons();
        x.sheet(0, 0, acts.length);
        for (int i = 0; i < acts.length; i++) {
            x.write(0, i, acts[i]);
        }
        return x;
    }

    // DOC 44: n (0 to 20) items of a SHEET taken for bytes, from item i on, are ACTS, each followed by a HALT
    private static void goAll() {
        Check.edges("44: n", 0, 20, -1, n -> withSheet(new int[40]).goAll(0, 0, n));
        IceKeys x = withSheet(2, 0, 1);
        due("44: none", x.goAll(0, 0, 0), 0);
        due("44: no HALT went by", x.state(0), 0);
        due("44: ACTS 2, 0, 1: 9, 1, 8", x.goAll(0, 0, 3), 18);
        due("44: three HALTS", x.state(0), 3);
        due("44: SCORE", x.state(2), 18);
        due("44: both TURNED", x.state(4), 3);
        due("44: from item 2 on", withSheet(2, 0, 1).goAll(0, 2, 1), 7);
        due("44: items 1, 2", withSheet(2, 0, 1).goAll(0, 1, 2), 7);
        // the least and the greatest ACT
        IceKeys six = new IceKeys();
        six.gate(0, 0, 5);
        for (int k = 0; k < 6; k++) {
            six.key(1, 50, 0, 0);
        }
        due("44: ACT 6", Check.tellKey(six, 6), 8);
        due("44: KEY 5", six.state(4), 32);
        // bytes: 257 is 1
        due("44: a byte", withSheet(257).goAll(0, 0, 1), 7);
        due("44: twenty", withSheet(new int[20]).goAll(0, 0, 20), 0);
        IceKeys last = withSheet(new int[40]);
        last.ends(16);
        last.write(0, 39, 1);
        due("44: items 25 to 39", last.goAll(0, 25, 15), 7);
        due("44: fifteen HALTS", last.state(0), 15);
    }

    // DOC 44: (what is none, or when it is OVER, is left out): what these HALTS were WORTH together.
    private static void goAllLeavesOut() {
        for (int none : new int[] {3, 4, 6, 7, 127, 128, -1, -128}) {
            IceKeys x = withSheet(none, 1, none);
            due("44: " + none + " is none", x.goAll(0, 0, 3), 7);
            due("44: one HALT", x.state(0), 1);
        }
        IceKeys x = withSheet(2, 1, 0);
        x.ends(2);
        due("44: the third is left out", x.goAll(0, 0, 3), 17);
        due("44: HALT is END", x.state(0), 2);
        due("44: OVER, all are left out", x.goAll(0, 0, 3), 0);
        due("44: SCORE", x.state(2), 17);
        IceKeys none = new IceKeys();
        none.sheet(0, 0, 2);
        none.write(0, 0, 1);
        due("44: no KEYS, ACT 1 is none, ACT 0 is one", none.goAll(0, 0, 2), 0);
        due("44: one HALT", none.state(0), 1);
    }

    // DOC 44: BAD: no such SHEET, n; -13; -11; -12: what stood ahead was done.
    private static void goAllRefuses() {
        for (int sheet : OUTSIDE_PLACES) {
            due("44: no SHEET " + sheet, new IceKeys().goAll(sheet, 0, 0), -1);
        }
        due("44: n ahead of -11", new IceKeys().goAll(0, 0, 21), -1);
        due("44: n ahead of -11", new IceKeys().goAll(0, 0, -1), -1);
        due("44: -11, n 0", new IceKeys().goAll(0, 0, 0), -11);
        due("44: -11 ahead of -12", new IceKeys().goAll(0, -1, 1), -11);
        for (int sort = 1; sort <= 4; sort++) {
            IceKeys x = new IceKeys();
            x.sheet(0, sort, 2);
            due("44: -13, n 0", x.goAll(0, 0, 0), -13);
            due("44: -13, sort " + sort, x.goAll(0, 0, 1), -13);
            due("44: -13 ahead of -12", x.goAll(0, 2, 1), -13);
            due("44: n ahead of -13", x.goAll(0, 0, 21), -1);
        }
        for (int i : new int[] {Integer.MIN_VALUE, -1, 3, 4, Integer.MAX_VALUE}) {
            IceKeys x = withSheet(2, 0, 1);
            due("44: item " + i + " of three", x.goAll(0, i, 1), -12);
            due("44: none goes by", x.state(0), 0);
            due("44: n 0, no item is asked", x.goAll(0, i, 0), 0);
        }
        IceKeys x = withSheet(2, 0, 1);
        due("44: up to the last", withSheet(2, 0, 1).goAll(0, 1, 2), 7);
        due("44: one too many", x.goAll(0, 1, 3), -12);
        due("44: two HALTS were done", x.state(0), 2);
        due("44: their SCORE", x.state(2), 7);
        due("44: KEY 0 is TURNED", x.state(4), 1);
        due("44: from -1 on: at once", x.goAll(0, -1, 3), -12);
        due("44: nothing was done", x.state(0), 2);
        due("44: an int that would wrap", x.goAll(0, Integer.MAX_VALUE, 20), -12);
        due("44: an int that would wrap", x.goAll(0, Integer.MIN_VALUE, 20), -12);
        IceKeys empty = withSheet();
        due("44: of none, n 0", empty.goAll(0, 0, 0), 0);
        due("44: of none, n 1", empty.goAll(0, 0, 1), -12);
    }

    // DOC 45: n (0 to 20) items likewise: what they would be WORTH. BAD: no such SHEET, n; -13; -11;
    private static void wouldBe() {
        Check.edges("45: n", 0, 20, -1, n -> withSheet(new int[40]).wouldBe(0, 0, n));
        Check.edges("45: SHEET", 0, 3, -1, sheet -> withSheet(1).wouldBe(sheet, 0, 0));
        due("45: none", withSheet(2, 0, 1).wouldBe(0, 0, 0), 0);
        IceKeys x = withSheet(2, 0, 1);
        due("45: 9, 1, 8", x.wouldBe(0, 0, 3), 18);
        due("45: no HALT went by", x.state(0), 0);
        due("45: no SCORE", x.state(2), 0);
        due("45: none is TURNED", x.state(4), 0);
        due("45: as ever", x.wouldBe(0, 0, 3), 18);
        due("45: n ahead of -11", new IceKeys().wouldBe(0, 0, 21), -1);
        due("45: n ahead of -11", new IceKeys().wouldBe(0, 0, -1), -1);
        due("45: -11, n 0", new IceKeys().wouldBe(0, 0, 0), -11);
        due("45: -11 ahead of -12", new IceKeys().wouldBe(0, -1, 1), -11);
        for (int sort = 1; sort <= 4; sort++) {
            IceKeys y = new IceKeys();
            y.sheet(0, sort, 2);
            due("45: -13, n 0", y.wouldBe(0, 0, 0), -13);
            due("45: -13 ahead of -12", y.wouldBe(0, 2, 1), -13);
            due("45: n ahead of -13", y.wouldBe(0, 0, 21), -1);
        }
    }

    // DOC 45: then, by items, -12; STATE: one is no ACT, or it would be OVER ahead of it.
    private static void wouldBeByItems() {
        for (int i : new int[] {Integer.MIN_VALUE, -1, 3, 4, Integer.MAX_VALUE}) {
            due("45: item " + i + " of three", withSheet(2, 0, 1).wouldBe(0, i, 1), -12);
            due("45: n 0, no item is asked", withSheet(2, 0, 1).wouldBe(0, i, 0), 0);
        }
        due("45: up to the last", withSheet(2, 0, 1).wouldBe(0, 1, 2), 7);
        due("45: one too many", withSheet(2, 0, 1).wouldBe(0, 1, 3), -12);
        due("45: an int that would wrap", withSheet(2).wouldBe(0, Integer.MAX_VALUE, 20), -12);
        for (int none : new int[] {3, 7, 127, 128, -1, -128}) {
            due("45: " + none + " is no ACT", withSheet(1, none, 0).wouldBe(0, 0, 3), -4);
            due("45: not asked", withSheet(1, none, 0).wouldBe(0, 0, 1), 7);
        }
        // by items: what comes first is answered
        due("45: no ACT ahead of one outside", withSheet(1, 9).wouldBe(0, 0, 3), -4);
        due("45: one outside, no ACT not asked", withSheet(9, 1).wouldBe(0, 1, 2), -12);
        IceKeys x = withSheet(2, 1, 0);
        x.ends(2);
        due("45: just till it is OVER", x.wouldBe(0, 0, 2), 17);
        due("45: OVER ahead of the third", x.wouldBe(0, 0, 3), -4);
        due("45: OVER ahead of the third, those behind aren't asked", x.wouldBe(0, 0, 9), -4);
        due("45: outside, though it would be OVER", x.wouldBe(0, 1, 3), -12);
        x.ends(1);
        x.halt();
        due("45: OVER now", x.wouldBe(0, 0, 1), -4);
        due("45: OVER now, outside", x.wouldBe(0, 3, 1), -12);
        due("45: OVER now, none", x.wouldBe(0, 0, 0), 0);
    }

    // DOC 46: A SHELF holds KEY n (what 0), the row of SHEET n (1; nothing, if missing), nothing (2): 1. BAD: no such SHELF, what, thing.
    private static void shelf() {
        Check.edges("46: SHELF", 0, 3, -1, shelf -> Check.five().shelf(shelf, 0, 0));
        Check.edges("46: what", 0, 2, -1, what -> Check.five().shelf(0, what, 0));
        Check.edges("46: KEY", 0, 4, -1, n -> Check.five().shelf(0, 0, n));
        Check.edges("46: SHEET", 0, 3, -1, n -> Check.five().shelf(0, 1, n));
        due("46: no KEY yet", new IceKeys().shelf(0, 0, 0), -1);
        for (int n : new int[] {Integer.MIN_VALUE, -1, 0, 5, Integer.MAX_VALUE}) {
            due("46: nothing, n counts nothing", new IceKeys().shelf(3, 2, n), 1);
        }
        IceKeys x = Check.five();
        due("46: KEY 4", x.shelf(0, 0, 4), 1);
        due("46: it is held", x.taken(0, 3), 4);
        due("46: no KEY 5", x.shelf(0, 0, 5), -1);
        due("46: no SHEET 4", x.shelf(0, 1, 4), -1);
        due("46: no what 3", x.shelf(0, 3, 0), -1);
        due("46: KEY 4 as ever", x.taken(0, 3), 4);
        due("46: a missing SHEET", x.shelf(0, 1, 3), 1);
        due("46: nothing", x.taken(0, 10), -11);
        x.sheet(3, 1, 40);
        due("46: it was missing then", x.taken(0, 11), -11);
        due("46: a row", x.shelf(0, 1, 3), 1);
        due("46: of 40", x.taken(0, 11), 40);
        due("46: nothing", x.shelf(0, 2, 0), 1);
        due("46: nothing", x.taken(0, 11), -11);
        x.sheet(3, 1, 0);
        due("46: a row of none is a row", x.shelf(0, 1, 3), 1);
        due("46: of none", x.taken(0, 11), 0);
    }

    // DOC 47: What a SHELF holds taken for a thing of KIND as (0 to 5, or one under it): its number; for a row of sort as - 10 (as 10 to 14): how many items. BAD: no such SHELF, as; -13; -11.
    private static void taken() {
        Check.edges("47: SHELF", 0, 3, -1, shelf -> new IceKeys().taken(shelf, 0));
        for (int as : new int[] {0, 1, 2, 3, 4, 5, 10, 11, 12, 13, 14}) {
            due("47: nothing as " + as, new IceKeys().taken(0, as), -11);
        }
        for (int as : new int[] {Integer.MIN_VALUE, -1, 6, 7, 8, 9, 15, 16, Integer.MAX_VALUE}) {
            due("47: as " + as + " of nothing", new IceKeys().taken(0, as), -1);
            due("47: as " + as + " of a KEY", thing(1, 0, 0).taken(0, as), -1);
            IceKeys row = new IceKeys();
            row.sheet(0, 0, 1);
            row.shelf(0, 1, 0);
            due("47: as " + as + " of a row", row.taken(0, as), -1);
        }
        int[] under = {0b111111, 0b000010, 0b001100, 0b001000, 0b110000, 0b100000};
        for (int kind = 1; kind <= 5; kind++) {
            for (int n = 0; n <= 5; n++) {
                IceKeys x = thing(kind, n, 0);
                for (int as = 0; as <= 5; as++) {
                    due("47: KIND " + kind + " as " + as, x.taken(0, as), (under[as] >> kind & 1) == 1 ? n : -13);
                }
                for (int as = 10; as <= 14; as++) {
                    due("47: a KEY as a row", x.taken(0, as), -13);
                }
            }
        }
        for (int sort = 0; sort <= 4; sort++) {
            for (int size : new int[] {0, 1, 40}) {
                IceKeys x = new IceKeys();
                x.sheet(2, sort, size);
                x.shelf(3, 1, 2);
                for (int as = 10; as <= 14; as++) {
                    due("47: sort " + sort + " as " + as, x.taken(3, as), as - 10 == sort ? size : -13);
                }
                for (int as = 0; as <= 5; as++) {
                    due("47: a row as a KEY", x.taken(3, as), -13);
                }
            }
        }
        due("47: BAD ahead of -11", new IceKeys().taken(4, 0), -1);
    }

    // DOC 48: An ACT (0 to 3) of the thing on a SHELF, with x. 0, and no TRACE then: no such SHELF, act, nothing, a row.
    private static void act() {
        IceKeys x = thing(1, 0, 4);
        x.sheet(0, 0, 3);
        x.shelf(2, 1, 0);
        x.shelf(3, 1, 3);
        int[][] none = {{Integer.MIN_VALUE, 0}, {-1, 0}, {4, 0}, {Integer.MAX_VALUE, 0}, {0, Integer.MIN_VALUE}, {0, -1},
            {0, 4}, {0, Integer.MAX_VALUE}, {1, 0}, {1, 3}, {2, 0}, {2, 3}, {3, 0}};
        for (int[] n : none) {
            due("48: an ACT", x.act(0, 3, 5), 30 + 5);
            due("48: its TRACE", x.many(6), 5);
            due("48: act(" + n[0] + ", " + n[1] + ", 5)", x.act(n[0], n[1], 5), 0);
            due("48: no TRACE", x.many(6), 0);
            due("48: no TRACE", x.trace(0), -3);
        }
        for (int act = 0; act <= 3; act++) {
            x.act(0, act, 5);
            due("48: ACT " + act + " runs", x.trace(0), BODIES[0][act][0]);
        }
    }

    // DOC 49: THE TRACE's i-th body. NONE.
    private static void trace() {
        due("49: no TRACE yet", new IceKeys().trace(0), -3);
        IceKeys x = thing(3, 0, 0);
        x.act(0, 3, 0);
        for (int i = 0; i < 11; i++) {
            due("49: body " + i, x.trace(i), BODIES[2][3][i]);
        }
        for (int i : new int[] {Integer.MIN_VALUE, -1, 11, 12, 29, 30, Integer.MAX_VALUE}) {
            due("49: no body " + i, x.trace(i), -3);
        }
    }

    // DOC 50: How many: what = 0 KEYS, 1 RULES, 2 those TURNED, 3 REPORTS, 4 ROWS, 5 bytes of THE TAPE, 6 bodies of THE TRACE. BAD: another what.
    private static void many() {
        Check.edges("50: what", 0, 6, -1, what -> new IceKeys().many(what));
        for (int what = 0; what <= 6; what++) {
            due("50: what " + what + " at first", new IceKeys().many(what), 0);
        }
        IceKeys x = thing(3, 5, 3);
        Check.tell(x, "iron carry;".repeat(8));
        for (int k = 0; k < 6; k++) {
            x.change(k, 4, 1);
            x.report(0, 0, 0, 99);
            due("50: those TURNED", x.many(2), k + 1);
        }
        x.prove(4);
        for (int i = 0; i < 25; i++) {
            x.feed(0, 8);
        }
        x.act(0, 3, 0);
        int[] full = {6, 8, 6, 6, 4, 200, 11};
        for (int what = 0; what <= 6; what++) {
            due("50: what " + what + ", full", x.many(what), full[what]);
        }
    }
}
