/**
 * The bounds that the document's terms name about THE REST and what is asked of it, and promises 14 to 22: a test for
 * each sentence, which stands above it.
 */
public final class HaltsBoundsTest {
    private static final int[] OUTSIDE_KEYS = {Integer.MIN_VALUE, -1, 1, 2, 5, 6, Integer.MAX_VALUE};

    public static void main(String[] args) {
        theRest();
        goneTerm();
        opensTerm();
        leftTerm();
        closeTerm();
        bunchTerm();
        halt();
        on();
        when();
        strawFor();
        gateFor();
        gone();
        opens();
        left();
        bunches();
        Check.end("HaltsBoundsTest");
    }

    private static void due(String call, long got, long want) {
        Check.due(call, got, want);
    }

    /** One salt for WARD 0 that loses 1 of its TEETH each HALT. */
    private static IceKeys salt(int teeth) {
        IceKeys x = new IceKeys();
        x.key(4, teeth, 0, 0);
        return x;
    }

    private static IceKeys iron(int teeth) {
        IceKeys x = new IceKeys();
        x.gate(0, 0, 5);
        x.key(1, teeth, 0, 0);
        return x;
    }

    private static void goTo(IceKeys x, int halt) {
        for (int h = x.state(0); h < halt; h++) {
            x.halt();
        }
    }

    // DOC T3: THE REST: all HALTS yet, in each the least KEY being told that MAY turn (none, if there is none).
    private static void theRest() {
        IceKeys x = new IceKeys();
        x.gate(1, 0, 5);
        x.key(1, 20, 0, 0);
        x.key(1, 40, 0, 1);
        x.key(1, 60, 0, 1);
        due("T3: the least that MAY turn", x.halt(), 8);
        due("T3: KEY 1", x.state(4), 2);
        due("T3: then the next", x.halt(), 10);
        due("T3: KEYS 1 and 2", x.state(4), 6);
        due("T3: then none", x.halt(), 2);
        due("T3: KEY 0 never", x.state(4), 6);
        x.anew();
        Check.tell(x, "iron if number = 1 chill;");
        x.sun(0, 3);
        due("T3: one that would chill isn't told", x.halt(), 9);
        due("T3: nor chilled", x.keyOf(1, 1), 40);
        due("T3: KEY 2", x.state(4), 4);
        x.anew();
        Check.tell(x, "key chill;");
        x.change(0, 4, 0);
        due("T3: none MAY turn, none is told", x.halt(), 0);
        due("T3: KEY 0 isn't chilled", x.keyOf(0, 1), 20);
        // all HALTS yet: from HALT to END
        IceKeys y = iron(40);
        goTo(y, 11);
        y.anew();
        due("T3: twelve HALTS", y.on(16), 19);
        goTo(y, 11);
        y.change(0, 4, 0);
        due("T3: one HALT", y.on(16), 8);
        goTo(y, 12);
        y.change(0, 4, 0);
        due("T3: no HALT", y.on(16), 0);
        due("T3: no KEYS", new IceKeys().on(16), 0);
    }

    // DOC T3: GONE: the first HALT, from HALT on, as which it is when TEETH of it are 0, in THE REST.
    private static void goneTerm() {
        for (int teeth = 0; teeth <= 12; teeth++) {
            due("T3: GONE by " + teeth, salt(teeth).gone(0), teeth);
        }
        due("T3: never GONE by 13", salt(13).gone(0), -3);
        // chilled ones aren't in THE REST; but who is TURNED keeps another no more from melting
        IceKeys x = salt(2);
        x.key(1, 50, 0, 0);
        due("T3: an other keeps it", x.gone(0), -3);
        x.gate(0, 0, 5);
        due("T3: the other is TURNED in the first HALT", x.gone(0), 2);
        // from HALT on
        IceKeys y = salt(5);
        goTo(y, 3);
        due("T3: from HALT 3 on", y.gone(0), 5);
        y.change(0, 1, 9);
        due("T3: from HALT 3 on", y.gone(0), 12);
        y.change(0, 1, 10);
        due("T3: OVER ahead of it", y.gone(0), -3);
        y.change(0, 1, 0);
        due("T3: now", y.gone(0), 3);
    }

    // DOC T3: OPENS: the WARDS (0 to 9) that it FITS now.
    private static void opensTerm() {
        IceKeys x = new IceKeys();
        x.gate(0, 1, 9);
        x.key(4, 1, 0, 0);
        due("T3: SHAPE 0: WARDS 0 to 2", x.opens(0), 0b111);
        x.change(0, 1, 12);
        due("T3: SHAPE 1: WARDS 0 to 3", x.opens(0), 0b1111);
        x.remake(0, 2);
        x.change(0, 1, 79);
        due("T3: SHAPE 8: WARDS 6 to 9", x.opens(0), 0b1111000000);
        x.change(0, 1, 89);
        due("T3: SHAPE 9: WARDS 7 to 9", x.opens(0), 0b1110000000);
        x.change(0, 1, 90);
        due("T3: SHAPE 10: WARDS 8 and 9", x.opens(0), 0b1100000000);
        x.gate(0, 1, 7);
        due("T3: SHAPE 10: WARD 9", x.opens(0), 0b1000000000);
        x.gate(0, 1, 3);
        due("T3: SHAPE 10: none", x.opens(0), 0);
        x.change(0, 1, 89);
        due("T3: SHAPE 9: WARD 9", x.opens(0), 0b1000000000);
        x.change(0, 1, 0);
        due("T3: no TEETH", x.opens(0), 0);
    }

    // DOC T3: LEFT by n: TEETH of all together, those that are TURNED, behind n HALTS of THE REST (fewer, if it is OVER).
    private static void leftTerm() {
        IceKeys x = salt(40);
        x.gate(0, 0, 3);
        x.key(1, 50, 0, 1);
        x.gate(1, 0, 5);
        int[] turned = {0, 1, 3, 3, 3};
        for (int n = 0; n <= 4; n++) {
            due("T3: TEETH behind " + n, x.left(n, 0), 90 - n);
            due("T3: TURNED behind " + n, x.left(n, 1), turned[n]);
        }
        due("T3: TEETH behind 11", x.left(11, 0), 79);
        due("T3: TEETH behind 12", x.left(12, 0), 78);
        due("T3: no thirteenth", x.left(13, 0), 78);
        due("T3: no sixteenth", x.left(16, 0), 78);
        x.ends(1);
        due("T3: one HALT alone", x.left(2, 1), 1);
        x.halt();
        due("T3: OVER", x.left(2, 1), 1);
        due("T3: OVER", x.left(2, 0), 89);
    }

    // DOC T3: CLOSE: two KEYS that aren't TURNED, of the same GATE, or of the same SHAPE;
    private static void closeTerm() {
        IceKeys x = new IceKeys();
        x.key(4, 11, 0, 0);
        x.key(4, 12, 0, 1);
        due("T3: neither GATE nor SHAPE", x.bunches(-1), 2);
        x.change(0, 1, 12);
        due("T3: the same SHAPE", x.bunches(-1), 1);
        x.change(0, 1, 11);
        x.change(0, 3, 1);
        due("T3: the same GATE", x.bunches(-1), 1);
        x.change(0, 1, 12);
        due("T3: both", x.bunches(-1), 1);
        x.change(0, 4, 1);
        due("T3: one is TURNED", x.bunches(1), 2);
        x.change(0, 4, 0);
        x.change(1, 4, 1);
        due("T3: the other is TURNED", x.bunches(0), 1);
        // SHAPES of other KINDS: iron 5 and salt by 60; TEETH 0 have a SHAPE, too
        IceKeys y = new IceKeys();
        y.key(1, 0, 0, 0);
        y.key(4, 60, 0, 1);
        y.key(2, 0, 0, 2);
        y.key(4, 0, 0, 3);
        due("T3: SHAPE 5", y.bunches(0), 0b0011);
        due("T3: SHAPE 0", y.bunches(2), 0b1100);
    }

    // DOC T3: a BUNCH: all that hang together so, one by the other.
    private static void bunchTerm() {
        // SHAPES 1 2 | 2 3 | 3 4 at GATES 0 0 | 1 1 | 2 2: a chain of six
        int[] up = {12, 24, 24, 36, 36, 48};
        IceKeys x = new IceKeys();
        for (int k = 0; k < 6; k++) {
            x.key(4, up[k], 0, k / 2);
        }
        for (int k = 0; k < 6; k++) {
            due("T3: a chain, KEY " + k, x.bunches(k), 63);
        }
        due("T3: one BUNCH", x.bunches(-1), 1);
        x.change(3, 4, 1);
        due("T3: cut", x.bunches(0), 0b000111);
        due("T3: cut", x.bunches(5), 0b110000);
        due("T3: two BUNCHES", x.bunches(-1), 2);
        // the ends of a chain meet last: GATES a b c c b a, SHAPES 1 2 2 3 3 4 (KEYS 0 5, 1 4, 2 3; 1 2, 3 4)
        int[] gates = {0, 1, 2, 2, 1, 0};
        int[] teeth = {12, 24, 24, 36, 36, 48};
        IceKeys y = new IceKeys();
        for (int k = 0; k < 6; k++) {
            y.key(4, teeth[k], 0, gates[k]);
        }
        due("T3: KEYS 0 and 5", y.bunches(0), 0b100001);
        due("T3: KEYS 1 to 4", y.bunches(4), 0b011110);
        due("T3: two BUNCHES", y.bunches(-1), 2);
        // a chain down: each hangs at the next lower one
        int[] down = {48, 36, 36, 24, 24, 12};
        int[] downGates = {0, 0, 1, 1, 2, 2};
        IceKeys z = new IceKeys();
        for (int k = 0; k < 6; k++) {
            z.key(4, down[5 - k], 0, downGates[5 - k]);
        }
        for (int k = 0; k < 6; k++) {
            due("T3: a chain down, KEY " + k, z.bunches(k), 63);
        }
    }

    // DOC 14: A HALT goes by as in THE REST: what it was WORTH. STATE: it is OVER.
    private static void halt() {
        IceKeys x = salt(2);
        x.ends(3);
        due("14: PAYS 5, 1 more", x.halt(), 6);
        due("14: no TEETH, WORTH nothing", x.halt(), 0);
        due("14: the last HALT", x.halt(), 0);
        due("14: OVER", x.halt(), -4);
        due("14: HALT is as it was", x.state(0), 3);
        due("14: SCORE is as it was", x.state(2), 6);
        x.ends(4);
        due("14: not OVER any more", x.halt(), 0);
        due("14: OVER again", x.halt(), -4);
        IceKeys last = iron(99);
        last.ends(16);
        goTo(last, 15);
        due("14: HALT 15 goes by", last.halt(), 1);
        due("14: HALT 16 doesn't", last.halt(), -4);
        due("14: SCORE", last.state(2), 25);
    }

    // DOC 15: What n (0 to 16) HALTS of THE REST (fewer, if it is OVER) are WORTH. BAD.
    private static void on() {
        Check.edges("15: n", 0, 16, -1, n -> iron(40).on(n));
        IceKeys x = iron(40);
        x.ends(16);
        for (int n = 0; n <= 16; n++) {
            due("15: on(" + n + ")", x.on(n), n == 0 ? 0 : 7 + n);
        }
        x.ends(5);
        due("15: just as many", x.on(5), 12);
        due("15: fewer", x.on(6), 12);
        due("15: fewer", x.on(16), 12);
        goTo(x, 4);
        due("15: one yet", x.on(16), 1);
        goTo(x, 5);
        due("15: OVER", x.on(16), 0);
        due("15: BAD, though it is OVER", x.on(17), -1);
    }

    // DOC 16: The first HALT of THE REST behind which a KEY is TURNED. BAD; NONE (also if it is now).
    private static void when() {
        for (int k : OUTSIDE_KEYS) {
            due("16: KEY " + k, iron(40).when(k), -1);
        }
        due("16: no KEY yet", new IceKeys().when(0), -1);
        due("16: HALT 0", iron(40).when(0), 0);
        IceKeys x = iron(40);
        x.change(0, 4, 1);
        due("16: it is now", x.when(0), -3);
        due("16: no TEETH", iron(0).when(0), -3);
        // SHAPE 0 from TEETH 11 on: in HALT 11, the last, by 22
        IceKeys y = salt(22);
        due("16: in the last HALT", y.when(0), 11);
        y.change(0, 1, 23);
        due("16: one HALT too late", y.when(0), -3);
        y.ends(16);
        y.change(0, 1, 26);
        due("16: HALT 15", y.when(0), 15);
        y.ends(15);
        due("16: OVER ahead of it", y.when(0), -3);
        y.change(0, 1, 14);
        goTo(y, 3);
        due("16: HALT itself", y.when(0), 3);
        y.halt();
        due("16: it is now", y.when(0), -3);
        // one each HALT, the least first
        IceKeys six = new IceKeys();
        six.gate(0, 0, 5);
        for (int k = 0; k < 6; k++) {
            six.key(1, 50, 0, 0);
        }
        for (int k = 0; k < 6; k++) {
            due("16: KEY " + k, six.when(k), k);
        }
        six.ends(5);
        due("16: in the last HALT", six.when(4), 4);
        due("16: OVER ahead of it", six.when(5), -3);
        goTo(six, 5);
        due("16: OVER", six.when(5), -3);
    }

    // DOC 17: STRAW with which a KEY makes THE REST WORTH most; of several the least. BAD.
    private static void strawFor() {
        for (int k : OUTSIDE_KEYS) {
            due("17: KEY " + k, iron(40).strawFor(k), -1);
        }
        due("17: no KEY yet", new IceKeys().strawFor(0), -1);
        due("17: all alike", iron(40).strawFor(0), 0);
        due("17: 1 less is enough", salt(3).strawFor(0), 3);
        IceKeys x = salt(3);
        x.change(0, 2, 9);
        due("17: of several the least, not the one that it has", x.strawFor(0), 3);
        due("17: STRAW is as it was", x.keyOf(0, 2), 9);
        // by HEAT 3 TEETH are less by 7 in STRAW 6, by 6 in STRAW 9, twelve times
        IceKeys hot = new IceKeys();
        for (int h = 0; h < 12; h++) {
            hot.sun(h, 12);
        }
        hot.gate(0, 0, 6);
        hot.key(4, 80, 0, 0);
        due("17: the most STRAW", hot.strawFor(0), 9);
        // 0 to 9: a sleeve by HEAT 3 has TEETH in six HALTS in STRAW 6 to 9, and would in seven in STRAW 12
        IceKeys sleeve = new IceKeys();
        for (int h = 0; h < 12; h++) {
            sleeve.sun(h, 12);
        }
        sleeve.gate(0, 0, 9);
        sleeve.gate(0, 1, 4);
        sleeve.key(2, 99, 0, 0);
        due("17: STRAW is 9 at most", sleeve.strawFor(0), 6);
        // all HALTS yet: TEETH 16 last for HALTS 0 to 14, in STRAW 3 for HALT 15, too
        IceKeys last = salt(16);
        last.gate(0, 0, 1);
        last.ends(16);
        due("17: sixteen HALTS", last.strawFor(0), 3);
        last.ends(15);
        due("17: fifteen HALTS", last.strawFor(0), 0);
        // a third for WARD 0 by SHAPE 2 wants a fourth of STRAW to be 2
        IceKeys third = new IceKeys();
        third.key(3, 20, 0, 0);
        third.ends(1);
        due("17: STRAW shapes it", third.strawFor(0), 8);
        third.halt();
        due("17: OVER, all alike", third.strawFor(0), 0);
    }

    // DOC 18: GATE likewise. BAD.
    private static void gateFor() {
        for (int k : OUTSIDE_KEYS) {
            due("18: KEY " + k, iron(40).gateFor(k), -1);
        }
        due("18: no KEY yet", new IceKeys().gateFor(0), -1);
        IceKeys x = new IceKeys();
        x.key(1, 40, 0, 3);
        due("18: all alike", x.gateFor(0), 0);
        for (int f = 5; f >= 0; f--) {
            x.gate(f, 0, 5);
            due("18: of several the least, GATE " + f, x.gateFor(0), f);
        }
        due("18: GATE is as it was", x.keyOf(0, 3), 3);
        // all HALTS yet: at the GATE of another that isn't TURNED TEETH 16 last for HALT 15, too
        IceKeys last = salt(16);
        last.gate(0, 0, 1);
        last.gate(4, 0, 1);
        last.key(1, 9, 0, 4);
        last.ends(16);
        due("18: sixteen HALTS", last.gateFor(0), 4);
        last.ends(15);
        due("18: fifteen HALTS", last.gateFor(0), 0);
        x.ends(1);
        x.halt();
        due("18: OVER, all alike", x.gateFor(0), 0);
    }

    // DOC 19: GONE (HALT itself, if TEETH are 0 now). BAD; NONE.
    private static void gone() {
        for (int k : OUTSIDE_KEYS) {
            due("19: KEY " + k, iron(40).gone(k), -1);
        }
        due("19: no KEY yet", new IceKeys().gone(0), -1);
        due("19: TEETH are 0 now", iron(0).gone(0), 0);
        due("19: TEETH 1", salt(1).gone(0), 1);
        due("19: never", iron(1).gone(0), -3);
        IceKeys x = salt(0);
        goTo(x, 12);
        due("19: TEETH are 0, OVER", x.gone(0), 12);
        x.change(0, 1, 1);
        due("19: TEETH are 1, OVER", x.gone(0), -3);
        IceKeys y = salt(16);
        y.ends(16);
        due("19: as HALT is 16", y.gone(0), 16);
        y.ends(15);
        due("19: OVER ahead of it", y.gone(0), -3);
    }

    // DOC 20: OPENS of a KEY, as a set (TURNED or not). BAD.
    private static void opens() {
        for (int k : OUTSIDE_KEYS) {
            due("20: KEY " + k, iron(40).opens(k), -1);
        }
        due("20: no KEY yet", new IceKeys().opens(0), -1);
        IceKeys x = iron(1);
        due("20: WARD 5", x.opens(0), 32);
        x.change(0, 4, 1);
        due("20: TURNED", x.opens(0), 32);
        x.gate(0, 0, 0);
        due("20: not the WARD of its GATE alone", x.opens(0), 32);
        x.gate(0, 1, 4);
        due("20: WARDS 4 to 6", x.opens(0), 112);
        x.gate(0, 1, 9);
        due("20: WARDS 3 to 7", x.opens(0), 248);
    }

    // DOC 21: LEFT by n (0 to 16): what 0 TEETH of all together, 1 those that are TURNED, as a set. BAD.
    private static void left() {
        for (int what = 0; what <= 1; what++) {
            int it = what;
            Check.edges("21: n, what " + what, 0, 16, -1, n -> iron(40).left(n, it));
        }
        Check.edges("21: what", 0, 1, -1, what -> iron(40).left(0, what));
        due("21: no KEYS", new IceKeys().left(16, 0), 0);
        due("21: no KEYS", new IceKeys().left(16, 1), 0);
        IceKeys x = salt(20);
        x.gate(0, 0, 1);
        x.ends(16);
        due("21: behind 0", x.left(0, 0), 20);
        due("21: none TURNED behind 0", x.left(0, 1), 0);
        due("21: TURNED behind 1", x.left(1, 1), 1);
        due("21: behind 15", x.left(15, 0), 5);
        due("21: behind 16", x.left(16, 0), 4);
        IceKeys six = new IceKeys();
        for (int k = 0; k < 6; k++) {
            six.key(1, 99, 0, 0);
            six.change(k, 4, 1);
        }
        due("21: TEETH of six", six.left(16, 0), 594);
        due("21: six TURNED", six.left(16, 1), 63);
    }

    // DOC 22: BUNCHES: what -1 how many, 0 .. 5 KEYS of that KEY's BUNCH, as a set (0: it is TURNED). BAD: also no such KEY.
    private static void bunches() {
        IceKeys x = new IceKeys();
        due("22: no KEYS, none", x.bunches(-1), 0);
        due("22: no KEY 0", x.bunches(0), -1);
        for (int k = 0; k < 6; k++) {
            due("22: no such KEY yet", x.bunches(k), -1);
            // SHAPES 0 to 5, each at a GATE of its own
            x.key(4, 12 * k, 0, k);
            due("22: alone", x.bunches(k), 1 << k);
            due("22: how many", x.bunches(-1), k + 1);
        }
        for (int what : new int[] {Integer.MIN_VALUE, -2, 6, 7, Integer.MAX_VALUE}) {
            due("22: what " + what, x.bunches(what), -1);
        }
        for (int k = 0; k < 6; k++) {
            x.change(k, 4, 1);
            due("22: it is TURNED", x.bunches(k), 0);
            due("22: how many", x.bunches(-1), 5 - k);
        }
        IceKeys one = new IceKeys();
        for (int k = 0; k < 6; k++) {
            one.key(1, 0, 0, 0);
        }
        due("22: all six", one.bunches(5), 63);
        due("22: one BUNCH", one.bunches(-1), 1);
    }
}
