/**
 * The bounds that section 1 of the document's terms (THE FORT) and promises 1 to 11 name: a test for each sentence, which
 * stands above it. SentencesTest looks whether all of them are there.
 */
public final class FortBoundsTest {
    private static final int[] OUTSIDE_KEYS = {Integer.MIN_VALUE, -1, 2, 3, 5, 6, Integer.MAX_VALUE};

    public static void main(String[] args) {
        newObject();
        terms();
        melting();
        shapes();
        fitting();
        goingBy();
        keys();
        gatesAndSuns();
        endsAndStates();
        theLastCall();
        Check.end("FortBoundsTest");
    }

    private static void due(String call, long got, long want) {
        Check.due(call, got, want);
    }

    // DOC 1: No KEYS, RULES, REPORTS; nothing is kept.
    private static void newObject() {
        IceKeys x = new IceKeys();
        due("1: KEYS", x.many(0), 0);
        due("1: RULES", x.many(1), 0);
        due("1: REPORTS", x.many(3), 0);
        due("1: no KEY 0", x.keyOf(0, 0), -1);
        due("1: all LONE KEYS FIT", x.lone(0), 500);
        due("1: nothing is kept", x.again(), -3);
        x.key(1, 1, 1, 1);
        x.report(0, 0, 0, 0);
        x.keep();
        IceKeys y = new IceKeys();
        due("1: KEYS of another", y.many(0), 0);
        due("1: REPORTS of another", y.many(3), 0);
        due("1: nothing is kept of another", y.again(), -3);
    }

    private static void terms() {
        endAtFirst();
        overFromEndOn();
        sunsAtFirst();
        sunIsHeatAndShade();
        wardsAndSlacks();
        score();
        sixKeys();
        kindsUnderKinds();
    }

    // DOC T1: HALTS are 0, 1, ..; END is 1 to 16 (12 at first);
    private static void endAtFirst() {
        due("T1: END at first", new IceKeys().state(1), 12);
        Check.edges("T1: END", 1, 16, -1, v -> new IceKeys().ends(v));
        IceKeys x = new IceKeys();
        x.ends(16);
        for (int h = 0; h < 16; h++) {
            due("T1: HALT", x.state(0), h);
            due("T1: a HALT goes by", x.halt(), 0);
        }
        due("T1: no seventeenth", x.halt(), -4);
    }

    // DOC T1: HALT: the one that comes (0 at first); from END on it is OVER.
    private static void overFromEndOn() {
        IceKeys x = new IceKeys();
        due("T1: HALT at first", x.state(0), 0);
        for (int h = 0; h < 12; h++) {
            due("T1: not OVER at " + h, x.state(3), 0);
            x.halt();
        }
        due("T1: HALT is END", x.state(0), 12);
        due("T1: OVER", x.state(3), 1);
        x.ends(13);
        due("T1: one ahead of END", x.state(3), 0);
        x.ends(12);
        due("T1: OVER again", x.state(3), 1);
    }

    // DOC T1: HALTS 0 to 15 each have a SUN: 4 times HEAT (0 to 3), and SHADE (0 to 3); 5 at first (behind HALT 15: 0).
    private static void sunsAtFirst() {
        IceKeys x = new IceKeys();
        x.ends(16);
        for (int h = 0; h <= 15; h++) {
            due("T1: the SUN of HALT " + h, x.state(5), 5);
            x.halt();
        }
        due("T1: behind HALT 15", x.state(0), 16);
        due("T1: the SUN there", x.state(5), 0);
        x.key(2, 50, 0, 0);
        due("T1: neither HEAT nor SHADE there", x.keyOf(0, 5), 6);
        Check.tell(x, "key if heat = 0 and halt = 16 chill;");
        due("T1: nor HEAT in THE RULES", x.keyOf(0, 9), 2);
        x.sun(15, 15);
        due("T1: HALT 15 isn't behind it", x.state(5), 0);
    }

    /** HEAT by a RULE's fact and SHADE by what a sleeve MELTS, for each SUN. */
    private static void sunIsHeatAndShade() {
        for (int heat = 0; heat <= 3; heat++) {
            IceKeys x = new IceKeys();
            x.key(2, 50, 0, 0);
            Check.tell(x, "key if heat = " + heat + " chill; key carry;");
            for (int sun = 0; sun <= 15; sun++) {
                x.sun(0, sun);
                due("T1: HEAT " + heat + " by SUN " + sun, x.keyOf(0, 9), sun / 4 == heat ? 2 : 1);
                due("T1: SHADE by SUN " + sun, 6 + 4 * (sun / 4) - x.keyOf(0, 5), sun % 4);
            }
        }
    }

    // DOC T1: GATES 0 to 5 each have a WARD, SLACK (0 to 9; 0 at first).
    private static void wardsAndSlacks() {
        IceKeys x = new IceKeys();
        for (int f = 0; f <= 5; f++) {
            due("T1: WARD at first", x.gateOf(f, 0), 0);
            due("T1: SLACK at first", x.gateOf(f, 1), 0);
            x.gate(f, 0, 9 - f);
            x.gate(f, 1, f);
        }
        for (int f = 0; f <= 5; f++) {
            due("T1: a WARD of its own", x.gateOf(f, 0), 9 - f);
            due("T1: a SLACK of its own", x.gateOf(f, 1), f);
        }
        Check.edges("T1: GATES", 0, 5, -1, f -> new IceKeys().gateOf(f, 0));
        Check.edges("T1: WARDS", 0, 9, -1, v -> new IceKeys().gate(0, 0, v));
        Check.edges("T1: SLACK", 0, 9, -1, v -> new IceKeys().gate(0, 1, v));
    }

    // DOC T1: SCORE: what HALTS were WORTH (0 at first).
    private static void score() {
        IceKeys x = Check.twoIrons();
        due("T1: SCORE at first", x.state(2), 0);
        x.halt();
        due("T1: SCORE by halt()", x.state(2), 7);
        Check.tellKey(x, 2);
        due("T1: SCORE by goAll()", x.state(2), 17);
        x.lot();
        due("T1: SCORE by lot()", x.state(2), 19);
        x.on(4);
        x.best(4);
        x.wouldBe(3, 0, 1);
        x.times(3, 1);
        due("T1: what is asked is no SCORE", x.state(2), 19);
    }

    // DOC T1: KEYS, 6 at most, numbered as they come: a KIND, TEETH (0 to 99), STRAW (0 to 9), a GATE; TURNED or not (at first).
    private static void sixKeys() {
        IceKeys x = new IceKeys();
        for (int k = 0; k < 6; k++) {
            due("T1: no KEY yet", x.keyOf(k, 0), -1);
            due("T1: numbered as it came", x.key(1 + k % 5, 10 + k, k, 5 - k), k);
            due("T1: not TURNED at first", x.keyOf(k, 4), 0);
        }
        due("T1: no seventh", x.key(1, 10, 0, 0), -2);
        for (int k = 0; k < 6; k++) {
            due("T1: its KIND", x.keyOf(k, 0), 1 + k % 5);
            due("T1: its TEETH", x.keyOf(k, 1), 10 + k);
            due("T1: its STRAW", x.keyOf(k, 2), k);
            due("T1: its GATE", x.keyOf(k, 3), 5 - k);
        }
        Check.edges("T1: TEETH", 0, 99, -1, v -> new IceKeys().key(1, v, 0, 0));
        Check.edges("T1: STRAW", 0, 9, -1, v -> new IceKeys().key(1, 0, v, 0));
        Check.edges("T1: a GATE", 0, 5, -1, v -> new IceKeys().key(1, 0, 0, v));
        // a KEY that comes where a TURNED one was is not TURNED
        IceKeys y = new IceKeys();
        y.keep();
        y.key(1, 1, 1, 1);
        y.change(0, 4, 1);
        y.again();
        y.key(1, 1, 1, 1);
        due("T1: not TURNED at first, where one was", y.keyOf(0, 4), 0);
    }

    // DOC T1: KINDS: 0 key; 1 iron, 2 sleeve, 4 salt (under key); 3 third (under sleeve); 5 spare (under salt).
    private static void kindsUnderKinds() {
        int[] under = {0b111111, 0b000010, 0b001100, 0b001000, 0b110000, 0b100000};
        String[] names = {"key", "iron", "sleeve", "third", "salt", "spare"};
        for (int above = 0; above <= 5; above++) {
            for (int kind = 1; kind <= 5; kind++) {
                boolean is = (under[above] >> kind & 1) == 1;
                IceKeys x = new IceKeys();
                x.key(kind, 50, 0, 0);
                x.shelf(0, 0, 0);
                due("T1: KIND " + kind + " taken for " + above, x.taken(0, above), is ? 0 : -13);
                Check.tell(x, names[above] + " chill;");
                due("T1: KIND " + kind + " by RULE of " + names[above], x.keyOf(0, 9), is ? 2 : 0);
            }
        }
    }

    private static void melting() {
        meltsKey();
        meltsIron();
        meltsSleeve();
        meltsThird();
        meltsSalt();
        meltsSpare();
        meltsInStraw();
        meltsByOthers();
    }

    /** What a KEY alone MELTS at HALT 0 by a SUN. */
    private static int melts(int kind, int sun, int straw) {
        IceKeys x = new IceKeys();
        x.sun(0, sun);
        x.key(kind, 50, straw, 0);
        return x.keyOf(0, 5);
    }

    // DOC T1: MELTS (by HEAT, SHADE, HALT): key: 3, and 2 for each of HEAT.
    private static void meltsKey() {
        // no KEY is of KIND 0; a sleeve without SHADE MELTS twice as much
        int[] key = {3, 5, 7, 9};
        for (int heat = 0; heat <= 3; heat++) {
            due("T1: twice a key by HEAT " + heat, melts(2, 4 * heat, 0), 2 * key[heat]);
        }
    }

    // DOC T1: iron: 0.
    private static void meltsIron() {
        for (int sun = 0; sun <= 15; sun++) {
            due("T1: iron by SUN " + sun, melts(1, sun, 0), 0);
        }
    }

    // DOC T1: sleeve: twice a key, less SHADE (0 at least).
    private static void meltsSleeve() {
        due("T1: sleeve, SHADE 0", melts(2, 0, 0), 6);
        due("T1: sleeve, SHADE 1", melts(2, 1, 0), 5);
        due("T1: sleeve, SHADE 3", melts(2, 3, 0), 3);
        due("T1: sleeve, HEAT 3, SHADE 3", melts(2, 15, 0), 15);
        due("T1: the straw isn't the sleeve's", melts(2, 3, 9), 0);
    }

    // DOC T1: third: half of a sleeve's.
    private static void meltsThird() {
        due("T1: third, half of 6", melts(3, 0, 0), 3);
        due("T1: third, half of 5", melts(3, 1, 0), 2);
        due("T1: third, half of 4", melts(3, 2, 0), 2);
        due("T1: third, half of 3", melts(3, 3, 0), 1);
        due("T1: third, half of 18", melts(3, 12, 0), 9);
        due("T1: third, half of 15", melts(3, 15, 0), 7);
        // what STRAW takes is taken behind the half
        due("T1: third, half of 9, less 1", melts(3, 5, 3), 3);
    }

    // DOC T1: salt: HEAT times HEAT.
    private static void meltsSalt() {
        int[] square = {0, 1, 4, 9};
        for (int sun = 0; sun <= 15; sun++) {
            due("T1: salt by SUN " + sun, melts(4, sun, 0), square[sun / 4]);
        }
    }

    // DOC T1: spare: as salt, and a third of HALT.
    private static void meltsSpare() {
        int[] want = {1, 1, 1, 2, 2, 2, 3, 3, 3, 4, 4, 4, 5, 5, 5, 6, 5};
        IceKeys x = new IceKeys();
        x.gate(0, 0, 9);
        x.ends(16);
        x.key(5, 99, 0, 0);
        for (int h = 0; h <= 16; h++) {
            due("T1: spare at HALT " + h, x.keyOf(0, 5), want[h]);
            x.halt();
        }
        for (int sun = 0; sun <= 15; sun++) {
            due("T1: spare at HALT 0 by SUN " + sun, melts(5, sun, 0), (sun / 4) * (sun / 4));
        }
    }

    // DOC T1: From that a third of STRAW is taken,
    private static void meltsInStraw() {
        int[] third = {0, 0, 0, 1, 1, 1, 2, 2, 2, 3};
        for (int straw = 0; straw <= 9; straw++) {
            due("T1: salt by HEAT 3 in STRAW " + straw, melts(4, 12, straw), 9 - third[straw]);
            due("T1: salt by HEAT 1 in STRAW " + straw, melts(4, 4, straw), straw < 3 ? 1 : 0);
            due("T1: iron in STRAW " + straw, melts(1, 12, straw), 0);
        }
    }

    // DOC T1: and 1 for each other of its GATE that isn't TURNED (0 at least).
    private static void meltsByOthers() {
        IceKeys x = new IceKeys();
        x.sun(0, 8);
        x.key(4, 50, 0, 2);
        int[] want = {4, 3, 2, 1, 0, 0};
        for (int others = 0; others <= 5; others++) {
            due("T1: salt by HEAT 2 with others: " + others, x.keyOf(0, 5), want[others]);
            x.key(1, 0, 0, 2);
        }
        for (int k = 1; k <= 5; k++) {
            due("T1: iron with others", x.keyOf(k, 5), 0);
        }
        x.change(5, 4, 1);
        due("T1: four that aren't TURNED", x.keyOf(0, 5), 0);
        x.change(4, 4, 1);
        due("T1: three that aren't TURNED", x.keyOf(0, 5), 1);
        x.change(0, 4, 1);
        due("T1: a TURNED one MELTS as well", x.keyOf(0, 5), 1);
        x.change(1, 3, 3);
        due("T1: of another GATE", x.keyOf(0, 5), 2);
        x.change(1, 3, 1);
        due("T1: of another GATE", x.keyOf(0, 5), 2);
    }

    private static void shapes() {
        shapeKey();
        shapeIron();
        shapeSleeve();
        shapeThird();
        shapeSalt();
        shapeSpare();
    }

    private static int shape(int kind, int teeth, int straw) {
        IceKeys x = new IceKeys();
        x.key(kind, teeth, straw, 0);
        return x.keyOf(0, 6);
    }

    // DOC T1: SHAPE (by TEETH, STRAW): key: a tenth of TEETH.
    private static void shapeKey() {
        // no KEY is of KIND 0; a sleeve below 50 TEETH is shaped as one
        int[][] tenth = {{0, 0}, {9, 0}, {10, 1}, {19, 1}, {20, 2}, {29, 2}, {30, 3}, {39, 3}, {40, 4}, {49, 4}};
        for (int[] t : tenth) {
            due("T1: as key by " + t[0], shape(2, t[0], 9), t[1]);
        }
    }

    // DOC T1: iron: 5.
    private static void shapeIron() {
        for (int teeth : new int[] {0, 1, 49, 50, 99}) {
            due("T1: iron by " + teeth, shape(1, teeth, 9), 5);
        }
    }

    // DOC T1: sleeve: as key, and a fiftieth of TEETH.
    private static void shapeSleeve() {
        int[][] want = {{49, 4}, {50, 6}, {59, 6}, {60, 7}, {89, 9}, {90, 10}, {99, 10}};
        for (int[] w : want) {
            due("T1: sleeve by " + w[0], shape(2, w[0], 0), w[1]);
            due("T1: sleeve in STRAW 9", shape(2, w[0], 9), w[1]);
        }
    }

    // DOC T1: third: as sleeve, less a fourth of STRAW (0 at least).
    private static void shapeThird() {
        int[] fourth = {0, 0, 0, 0, 1, 1, 1, 1, 2, 2};
        for (int straw = 0; straw <= 9; straw++) {
            due("T1: third by 99 in STRAW " + straw, shape(3, 99, straw), 10 - fourth[straw]);
            due("T1: third by 50 in STRAW " + straw, shape(3, 50, straw), 6 - fourth[straw]);
            due("T1: third by 20 in STRAW " + straw, shape(3, 20, straw), 2 - fourth[straw]);
            due("T1: third by 10 in STRAW " + straw, shape(3, 10, straw), straw < 4 ? 1 : 0);
            due("T1: third by 9 in STRAW " + straw, shape(3, 9, straw), 0);
        }
    }

    // DOC T1: salt: a twelfth of TEETH.
    private static void shapeSalt() {
        int[][] want = {{0, 0}, {11, 0}, {12, 1}, {23, 1}, {24, 2}, {95, 7}, {96, 8}, {99, 8}};
        for (int[] w : want) {
            due("T1: salt by " + w[0], shape(4, w[0], 9), w[1]);
        }
    }

    // DOC T1: spare: as salt, and its number, 9 at most.
    private static void shapeSpare() {
        int[] most = {8, 9, 9, 9, 9, 9};
        IceKeys x = new IceKeys();
        for (int k = 0; k <= 5; k++) {
            x.key(5, 11, 9, 0);
            due("T1: spare " + k + " by 11", x.keyOf(k, 6), k);
            x.change(k, 1, 12);
            due("T1: spare " + k + " by 12", x.keyOf(k, 6), k + 1);
            x.change(k, 1, 47);
            due("T1: spare " + k + " by 47", x.keyOf(k, 6), k + 3);
            x.change(k, 1, 99);
            due("T1: spare " + k + " by 99", x.keyOf(k, 6), most[k]);
        }
        x.change(5, 1, 48);
        due("T1: spare 5 by 48, just 9", x.keyOf(5, 6), 9);
        x.change(5, 1, 60);
        due("T1: spare 5 by 60, 9 at most", x.keyOf(5, 6), 9);
    }

    private static void fitting() {
        fits();
        pays();
        mayTurn();
    }

    // DOC T1: FITS a WARD: TEETH are above 0, and its SHAPE and the WARD are apart by a fourth of the SLACK of its GATE (cut) or less.
    private static void fits() {
        int[] apart = {0, 0, 0, 0, 1, 1, 1, 1, 2, 2};
        for (int slack = 0; slack <= 9; slack++) {
            IceKeys x = new IceKeys();
            x.gate(3, 1, slack);
            // SLACK of another GATE counts nothing
            x.gate(2, 1, 9 - slack);
            x.key(1, 1, 0, 3);
            for (int ward = 0; ward <= 9; ward++) {
                x.gate(3, 0, ward);
                boolean is = Math.abs(ward - 5) <= apart[slack];
                due("T1: SHAPE 5 FITS WARD " + ward + " by SLACK " + slack, x.keyOf(0, 7), is ? 5 : 0);
            }
        }
        IceKeys x = new IceKeys();
        x.key(4, 0, 0, 0);
        due("T1: TEETH 0 FIT nothing", x.keyOf(0, 7), 0);
        due("T1: TEETH 0 open nothing", x.opens(0), 0);
        x.change(0, 1, 1);
        due("T1: TEETH 1 FIT WARD 0", x.keyOf(0, 7), 5);
        due("T1: TEETH 1 open WARD 0", x.opens(0), 1);
        // SHAPE 10 and WARD 9 are apart by 1, 8 by 2
        IceKeys y = new IceKeys();
        y.key(2, 99, 0, 0);
        y.gate(0, 0, 9);
        y.gate(0, 1, 3);
        due("T1: SHAPE 10, WARD 9, SLACK 3", y.keyOf(0, 7), 0);
        y.gate(0, 1, 4);
        due("T1: SHAPE 10, WARD 9, SLACK 4", y.keyOf(0, 7), 9);
        y.gate(0, 0, 8);
        y.gate(0, 1, 7);
        due("T1: SHAPE 10, WARD 8, SLACK 7", y.keyOf(0, 7), 0);
        y.gate(0, 1, 8);
        due("T1: SHAPE 10, WARD 8, SLACK 8", y.keyOf(0, 7), 9);
    }

    // DOC T1: PAYS: 5, and a twentieth of TEETH, if it is not TURNED, and FITS the WARD of its GATE; else 0.
    private static void pays() {
        IceKeys x = new IceKeys();
        x.gate(0, 0, 5);
        x.key(1, 0, 0, 0);
        int[][] want = {{0, 0}, {1, 5}, {19, 5}, {20, 6}, {39, 6}, {40, 7}, {59, 7}, {60, 8}, {79, 8}, {80, 9}, {99, 9}};
        for (int[] w : want) {
            x.change(0, 1, w[0]);
            due("T1: PAYS by " + w[0], x.keyOf(0, 7), w[1]);
        }
        x.change(0, 4, 1);
        due("T1: TURNED PAYS 0", x.keyOf(0, 7), 0);
        x.change(0, 4, 0);
        x.change(0, 3, 1);
        due("T1: the WARD of another GATE counts nothing", x.keyOf(0, 7), 0);
        x.gate(1, 0, 5);
        due("T1: the WARD of its GATE", x.keyOf(0, 7), 9);
    }

    // DOC T1: MAY turn: its WILL is to turn, and it PAYS more than 0.
    private static void mayTurn() {
        IceKeys x = new IceKeys();
        x.gate(0, 0, 5);
        x.key(1, 1, 0, 0);
        due("T1: MAY turn", x.keyOf(0, 8), 1);
        x.change(0, 1, 0);
        due("T1: PAYS 0", x.keyOf(0, 8), 0);
        x.change(0, 1, 1);
        for (String other : new String[] {"carry", "chill"}) {
            Check.tell(x, "key " + other + ";");
            due("T1: PAYS as ever", x.keyOf(0, 7), 5);
            due("T1: WILL is to " + other, x.keyOf(0, 8), 0);
        }
        Check.tell(x, "key turn;");
        due("T1: WILL is to turn", x.keyOf(0, 8), 1);
        x.change(0, 4, 1);
        due("T1: TURNED", x.keyOf(0, 8), 0);
    }

    private static void goingBy() {
        asItsWillIs();
        turns();
        chills();
        carries();
        allMelt();
        worthOneMore();
    }

    // DOC T1: A HALT goes by: (1) If a KEY is told, and is not TURNED, it does as its WILL is: turn (if no RULE tells), carry, or chill: the first of THE RULES whose KIND is its or above it, and whose condition holds, tells it.
    private static void asItsWillIs() {
        IceKeys x = Check.twoIrons();
        due("T1: none is told", Check.tellKey(x, 0), 0);
        due("T1: none is TURNED", x.state(4), 0);
        due("T1: told, no RULE tells", Check.tellKey(x, 1), 7);
        due("T1: it is TURNED", x.state(4), 1);
        x.sun(2, 2);
        Check.tell(x, "iron chill;");
        due("T1: told, but TURNED", Check.tellKey(x, 1), 1);
        due("T1: its TEETH are as they were", x.keyOf(0, 1), 20);
        x.sun(3, 2);
        due("T1: told to chill", Check.tellKey(x, 2), 2);
        due("T1: it is not TURNED", x.state(4), 1);
        // the first whose KIND is its or above it, and whose condition holds
        Check.tell(x, "salt chill; iron if 1 > 2 chill; iron if 1 < 2 carry; key chill; iron turn;");
        due("T1: the third RULE", x.keyOf(1, 9), 1);
        Check.tell(x, "key chill; iron carry;");
        due("T1: the KIND above it", x.keyOf(1, 9), 2);
        Check.tell(x, "iron if 2 < 2 carry; sleeve carry; third carry; spare carry; salt carry;");
        due("T1: no RULE tells", x.keyOf(1, 9), 0);
    }

    // DOC T1: turn: WORTH what it PAYS; if that is more than 0, it is TURNED.
    private static void turns() {
        IceKeys x = new IceKeys();
        x.gate(0, 0, 5);
        x.key(1, 19, 0, 0);
        x.key(1, 20, 0, 1);
        due("T1: PAYS 0, WORTH 0", Check.tellKey(x, 2), 0);
        due("T1: not TURNED", x.state(4), 0);
        due("T1: PAYS 5, and 1 for it is TURNED", Check.tellKey(x, 1), 6);
        due("T1: TURNED", x.state(4), 1);
        x.gate(1, 0, 5);
        due("T1: PAYS 6, and 1 for each of both", Check.tellKey(x, 2), 8);
        due("T1: both TURNED", x.state(4), 3);
    }

    // DOC T1: chill: TEETH are 7 more (99 at most), WORTH 1, if SHADE is above 1.
    private static void chills() {
        int[][] teeth = {{0, 7}, {1, 8}, {91, 98}, {92, 99}, {93, 99}, {98, 99}, {99, 99}};
        for (int shade = 0; shade <= 3; shade++) {
            for (int[] t : teeth) {
                IceKeys x = new IceKeys();
                x.sun(0, shade);
                x.key(1, t[0], 0, 0);
                Check.tell(x, "key chill;");
                due("T1: chill by SHADE " + shade + ", from " + t[0], Check.tellKey(x, 1), shade > 1 ? 1 : 0);
                due("T1: TEETH then", x.keyOf(0, 1), shade > 1 ? t[1] : t[0]);
                due("T1: not TURNED", x.state(4), 0);
            }
        }
        // 99 at most ahead of what MELTS
        IceKeys x = new IceKeys();
        x.sun(0, 14);
        x.key(4, 95, 0, 0);
        Check.tell(x, "key chill;");
        due("T1: chill by HEAT 3", Check.tellKey(x, 1), 1);
        due("T1: 99, less 9", x.keyOf(0, 1), 90);
    }

    // DOC T1: carry: nothing.
    private static void carries() {
        IceKeys x = Check.twoIrons();
        x.sun(0, 3);
        Check.tell(x, "key carry;");
        due("T1: carry", Check.tellKey(x, 1), 0);
        due("T1: not TURNED", x.state(4), 0);
        due("T1: TEETH stay", x.keyOf(0, 1), 20);
        due("T1: but the HALT went by", x.state(0), 1);
    }

    // DOC T1: (2) TEETH of each, TURNED or not, are less by what it MELTS (0 at least; by all as (2) begins);
    private static void allMelt() {
        for (int teeth = 8; teeth <= 10; teeth++) {
            IceKeys x = new IceKeys();
            x.gate(0, 0, 9);
            x.sun(0, 12);
            x.key(4, teeth, 0, 0);
            x.key(4, teeth, 0, 1);
            x.change(1, 4, 1);
            x.halt();
            due("T1: " + teeth + ", less 9, 0 at least", x.keyOf(0, 1), teeth == 10 ? 1 : 0);
            due("T1: TURNED, " + teeth + ", less 9, 0 at least", x.keyOf(1, 1), teeth == 10 ? 1 : 0);
        }
        // as (2) begins the one that was told is TURNED, so it is no other any more
        IceKeys x = new IceKeys();
        x.gate(0, 0, 5);
        x.key(4, 50, 0, 0);
        x.key(1, 50, 0, 0);
        due("T1: one other yet", x.keyOf(0, 5), 0);
        Check.tellKey(x, 2);
        due("T1: none in (2)", x.keyOf(0, 1), 49);
        // two of a GATE go to 0 at once: each is the other's other till the HALT is behind them
        IceKeys y = new IceKeys();
        y.gate(0, 0, 9);
        y.sun(0, 8);
        y.key(4, 3, 0, 0);
        y.key(4, 4, 0, 0);
        y.halt();
        due("T1: 3, less 3", y.keyOf(0, 1), 0);
        due("T1: 4, less 3", y.keyOf(1, 1), 1);
        // by the HALT that goes by, not the next
        IceKeys z = new IceKeys();
        z.gate(0, 0, 9);
        z.key(5, 50, 0, 0);
        z.sun(2, 0);
        z.sun(3, 15);
        z.on(1);
        z.halt();
        z.halt();
        due("T1: 1 in each of two HALTS", z.keyOf(0, 1), 48);
        z.halt();
        due("T1: 0 in HALT 2 by SUN 0", z.keyOf(0, 1), 48);
        z.halt();
        due("T1: 9 and 1 in HALT 3", z.keyOf(0, 1), 38);
    }

    // DOC T1: then each that is TURNED and has TEETH above 0 is WORTH 1 more. HALT is 1 more.
    private static void worthOneMore() {
        for (int teeth = 0; teeth <= 2; teeth++) {
            IceKeys x = new IceKeys();
            x.gate(0, 0, 9);
            x.key(4, teeth, 0, 0);
            x.change(0, 4, 1);
            due("T1: TURNED, " + teeth + " less 1", x.halt(), teeth == 2 ? 1 : 0);
            due("T1: HALT is 1 more", x.state(0), 1);
        }
        IceKeys x = new IceKeys();
        x.key(4, 1, 0, 0);
        due("T1: turned with its last TEETH: PAYS 5, and no more", x.halt(), 5);
        due("T1: TURNED all the same", x.state(4), 1);
        IceKeys six = new IceKeys();
        for (int k = 0; k < 6; k++) {
            six.key(1, 1, 0, k);
            six.change(k, 4, 1);
        }
        due("T1: six TURNED", six.halt(), 6);
    }

    private static IceKeys two() {
        IceKeys x = new IceKeys();
        x.key(4, 50, 5, 3);
        x.key(2, 60, 6, 4);
        return x;
    }

    private static void keys() {
        key();
        keyOf();
        change();
        remake();
    }

    // DOC 2: A KEY of a KIND 1 to 5: its number. BAD; FULL.
    private static void key() {
        Check.edges("2: KIND", 1, 5, -1, v -> new IceKeys().key(v, 50, 5, 3));
        Check.edges("2: TEETH", 0, 99, -1, v -> new IceKeys().key(1, v, 5, 3));
        Check.edges("2: STRAW", 0, 9, -1, v -> new IceKeys().key(1, 50, v, 3));
        Check.edges("2: GATE", 0, 5, -1, v -> new IceKeys().key(1, 50, 5, v));
        IceKeys x = new IceKeys();
        for (int k = 0; k < 6; k++) {
            due("2: its number", x.key(1, 99, 9, 5), k);
            due("2: how many", x.many(0), k + 1);
        }
        due("2: FULL", x.key(1, 99, 9, 5), -2);
        due("2: BAD ahead of FULL, KIND", x.key(0, 99, 9, 5), -1);
        due("2: BAD ahead of FULL, TEETH", x.key(1, 100, 9, 5), -1);
        due("2: BAD ahead of FULL, STRAW", x.key(1, 99, 10, 5), -1);
        due("2: BAD ahead of FULL, GATE", x.key(1, 99, 9, 6), -1);
        due("2: still six", x.many(0), 6);
    }

    // DOC 3: Of a KEY: what = 0 KIND, 1 TEETH, 2 STRAW, 3 GATE, 4 1 if it is TURNED, else 0, 5 what it MELTS now, 6 its SHAPE now, 7 what it PAYS now, 8 1 if it MAY turn now, else 0, 9 WILL as all is now (0 turn, 1 carry, 2 chill). BAD.
    private static void keyOf() {
        int[] want = {4, 50, 5, 3, 0, 0, 4, 0, 0, 0};
        IceKeys x = two();
        for (int what = 0; what <= 9; what++) {
            due("3: what " + what, x.keyOf(0, what), want[what]);
        }
        Check.edges("3: what", 0, 9, -1, what -> two().keyOf(1, what));
        for (int k : OUTSIDE_KEYS) {
            for (int what = 0; what <= 9; what++) {
                due("3: KEY " + k + ", what " + what, x.keyOf(k, what), -1);
            }
        }
        due("3: no KEY yet", new IceKeys().keyOf(0, 0), -1);
        // now: each as it is changed
        x.sun(0, 12);
        due("3: MELTS now", x.keyOf(0, 5), 8);
        x.change(0, 1, 60);
        due("3: SHAPE now", x.keyOf(0, 6), 5);
        x.gate(3, 0, 5);
        due("3: PAYS now", x.keyOf(0, 7), 8);
        due("3: MAY turn now", x.keyOf(0, 8), 1);
        Check.tell(x, "salt if heat = 3 chill;");
        due("3: WILL now", x.keyOf(0, 9), 2);
        due("3: MAY turn no more", x.keyOf(0, 8), 0);
        x.sun(0, 11);
        due("3: WILL now", x.keyOf(0, 9), 0);
        Check.tell(x, "salt if teeth = 60 carry;");
        due("3: WILL now", x.keyOf(0, 9), 1);
        x.change(0, 4, 1);
        due("3: TURNED now", x.keyOf(0, 4), 1);
    }

    // DOC 4: TEETH (what 1), STRAW (2), GATE (3), TURNED (4: 0, 1) of a KEY becomes v: what it was. BAD.
    private static void change() {
        Check.edges("4: TEETH", 0, 99, -1, v -> two().change(0, 1, v));
        Check.edges("4: STRAW", 0, 9, -1, v -> two().change(0, 2, v));
        Check.edges("4: GATE", 0, 5, -1, v -> two().change(0, 3, v));
        Check.edges("4: TURNED", 0, 1, -1, v -> two().change(0, 4, v));
        Check.edges("4: what", 1, 4, -1, what -> two().change(0, what, 1));
        for (int k : OUTSIDE_KEYS) {
            for (int what = 1; what <= 4; what++) {
                due("4: KEY " + k, two().change(k, what, 1), -1);
            }
        }
        due("4: no KEY yet", new IceKeys().change(0, 1, 1), -1);
        int[] most = {0, 99, 9, 5, 1};
        int[] was = {4, 50, 5, 3, 0};
        for (int what = 1; what <= 4; what++) {
            IceKeys x = two();
            due("4: what it was", x.change(0, what, most[what]), was[what]);
            for (int other = 0; other <= 4; other++) {
                due("4: what " + other + " then", x.keyOf(0, other), other == what ? most[what] : was[other]);
            }
            due("4: the other KEY's TEETH", x.keyOf(1, 1), 60);
            due("4: the other KEY isn't TURNED", x.keyOf(1, 4), 0);
            due("4: what it was", x.change(0, what, 0), most[what]);
            due("4: what it is", x.keyOf(0, what), 0);
        }
        // the last KEY that there can be
        IceKeys six = new IceKeys();
        for (int k = 0; k < 6; k++) {
            six.key(1, 1, 1, 1);
        }
        due("4: KEY 5", six.change(5, 4, 1), 0);
        due("4: KEY 5 TURNED", six.state(4), 32);
        due("4: no KEY 6", six.change(6, 4, 1), -1);
    }

    // DOC 5: A KEY becomes one of another KIND (1 to 5): the KIND that it was. BAD.
    private static void remake() {
        Check.edges("5: KIND", 1, 5, -1, kind -> two().remake(0, kind));
        for (int k : OUTSIDE_KEYS) {
            due("5: KEY " + k, two().remake(k, 1), -1);
        }
        due("5: no KEY yet", new IceKeys().remake(0, 1), -1);
        IceKeys x = two();
        x.change(0, 4, 1);
        int was = 4;
        for (int kind : new int[] {1, 2, 3, 5, 4}) {
            due("5: the KIND that it was", x.remake(0, kind), was);
            due("5: the KIND that it is", x.keyOf(0, 0), kind);
            due("5: TEETH stay", x.keyOf(0, 1), 50);
            due("5: STRAW stays", x.keyOf(0, 2), 5);
            due("5: GATE stays", x.keyOf(0, 3), 3);
            due("5: TURNED stays", x.keyOf(0, 4), 1);
            due("5: the other's KIND stays", x.keyOf(1, 0), 2);
            was = kind;
        }
    }

    private static void gatesAndSuns() {
        sun();
        gate();
        gateOf();
    }

    // DOC 6: The SUN of a HALT (0 to 15) becomes v (0 to 15): what it was. BAD.
    private static void sun() {
        Check.edges("6: HALT", 0, 15, -1, h -> new IceKeys().sun(h, 0));
        Check.edges("6: SUN", 0, 15, -1, v -> new IceKeys().sun(7, v));
        IceKeys x = new IceKeys();
        for (int h = 0; h <= 15; h++) {
            due("6: what it was", x.sun(h, 15 - h), 5);
        }
        for (int h = 0; h <= 15; h++) {
            due("6: what it was", x.sun(h, h), 15 - h);
        }
        // also of a HALT from END on, and of one that has gone by
        x.ends(1);
        x.halt();
        due("6: of a HALT that has gone by", x.sun(0, 1), 0);
        due("6: of a HALT from END on", x.sun(15, 1), 15);
        due("6: OVER, the SUN of HALT", x.state(5), 1);
    }

    // DOC 7: The WARD of a GATE (what 0), its SLACK (1) becomes v: what it was. BAD.
    private static void gate() {
        for (int what = 0; what <= 1; what++) {
            int it = what;
            Check.edges("7: GATE, what " + what, 0, 5, -1, f -> new IceKeys().gate(f, it, 9));
            Check.edges("7: v, what " + what, 0, 9, -1, v -> new IceKeys().gate(5, it, v));
            IceKeys x = new IceKeys();
            due("7: what it was", x.gate(5, what, 9), 0);
            due("7: what it was", x.gate(5, what, 0), 9);
            due("7: what it was", x.gate(5, what, 4), 0);
            due("7: what it is", x.gateOf(5, what), 4);
            due("7: the other stays", x.gateOf(5, 1 - what), 0);
            due("7: of another GATE", x.gateOf(4, what), 0);
        }
        Check.edges("7: what", 0, 1, -1, what -> new IceKeys().gate(0, what, 1));
    }

    // DOC 8: Of a GATE: what = 0 WARD, 1 SLACK. BAD.
    private static void gateOf() {
        IceKeys x = new IceKeys();
        x.gate(0, 0, 3);
        x.gate(0, 1, 8);
        due("8: WARD", x.gateOf(0, 0), 3);
        due("8: SLACK", x.gateOf(0, 1), 8);
        Check.edges("8: GATE, WARD", 0, 5, -1, f -> new IceKeys().gateOf(f, 0));
        Check.edges("8: GATE, SLACK", 0, 5, -1, f -> new IceKeys().gateOf(f, 1));
        Check.edges("8: what", 0, 1, -1, what -> new IceKeys().gateOf(0, what));
    }

    private static void endsAndStates() {
        ends();
        anew();
        state();
    }

    // DOC 9: END becomes v: what it was. BAD; STATE: v is below HALT.
    private static void ends() {
        Check.edges("9: END", 1, 16, -1, v -> new IceKeys().ends(v));
        IceKeys x = new IceKeys();
        due("9: what it was", x.ends(16), 12);
        for (int h = 0; h < 3; h++) {
            x.halt();
        }
        due("9: one below HALT", x.ends(2), -4);
        due("9: the least", x.ends(1), -4);
        due("9: BAD ahead of STATE", x.ends(0), -1);
        due("9: BAD ahead of STATE", x.ends(-5), -1);
        due("9: END stays", x.state(1), 16);
        due("9: HALT itself", x.ends(3), 16);
        due("9: END is HALT", x.state(1), 3);
        due("9: OVER now", x.state(3), 1);
        due("9: one above HALT", x.ends(4), 3);
        due("9: not OVER", x.state(3), 0);
        x.ends(16);
        for (int h = 3; h < 16; h++) {
            x.halt();
        }
        due("9: HALT 16: one below", x.ends(15), -4);
        due("9: HALT 16: itself", x.ends(16), 16);
        due("9: HALT 16: above is BAD", x.ends(17), -1);
        x.anew();
        due("9: anew, HALT is 0", x.ends(1), 16);
    }

    // DOC 10: HALT is 0 again, SCORE 0, none is TURNED (TEETH stay): what HALT was.
    private static void anew() {
        due("10: nothing yet", new IceKeys().anew(), 0);
        IceKeys x = new IceKeys();
        x.ends(16);
        x.key(4, 3, 0, 0);
        x.key(4, 90, 2, 1);
        for (int h = 0; h < 16; h++) {
            x.halt();
        }
        x.change(1, 4, 1);
        due("10: it was OVER", x.state(3), 1);
        due("10: what HALT was", x.anew(), 16);
        due("10: HALT", x.state(0), 0);
        due("10: SCORE", x.state(2), 0);
        due("10: not OVER", x.state(3), 0);
        due("10: none is TURNED", x.state(4), 0);
        due("10: TEETH stay at 0", x.keyOf(0, 1), 0);
        due("10: TEETH stay", x.keyOf(1, 1), 74);
        due("10: END stays", x.state(1), 16);
        due("10: HALT was 0", x.anew(), 0);
    }

    // DOC 11: What = 0 HALT, 1 END, 2 SCORE, 3 1 if it is OVER, else 0, 4 KEYS that are TURNED, as a set, 5 the SUN of HALT, 6 TEETH of all together. BAD.
    private static void state() {
        Check.edges("11: what", 0, 6, -1, what -> two().state(what));
        int[] first = {0, 12, 0, 0, 0, 5, 0};
        for (int what = 0; what <= 6; what++) {
            due("11: what " + what + " at first", new IceKeys().state(what), first[what]);
        }
        IceKeys x = new IceKeys();
        for (int k = 0; k < 6; k++) {
            x.key(1, 99, 0, 0);
            x.change(k, 4, 1);
            due("11: TURNED, as a set", x.state(4), (2 << k) - 1);
        }
        due("11: TEETH of six", x.state(6), 594);
        x.change(0, 4, 0);
        x.change(4, 4, 0);
        due("11: TURNED, as a set", x.state(4), 0b101110);
        x.halt();
        due("11: HALT", x.state(0), 1);
        due("11: SCORE", x.state(2), 4);
        x.sun(1, 13);
        due("11: the SUN of HALT", x.state(5), 13);
        x.ends(1);
        due("11: END", x.state(1), 1);
        due("11: OVER", x.state(3), 1);
        for (int k = 0; k < 6; k++) {
            x.change(k, 1, 0);
        }
        due("11: TEETH of all, 0", x.state(6), 0);
    }

    /** An object is used for at most 512 calls: the last of these is answered as ever. */
    private static void theLastCall() {
        IceKeys x = Check.twoIrons();
        for (int call = 4; call <= 510; call++) {
            if (call % 2 == 0) {
                x.change(0, 1, call % 100);
            } else {
                x.change(1, 2, call % 10);
            }
        }
        due("the 511th call", x.keyOf(0, 1), 10);
        due("the 512th call", x.best(4), 20);
    }
}
