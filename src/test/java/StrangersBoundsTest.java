/** The bounds that the document's terms name about REPORTS, LONE KEYS and LOTS, and promises 30 to 36: a test for each sentence. */
public final class StrangersBoundsTest {
    public static void main(String[] args) {
        reportTerm();
        loneTerm();
        fitTerm();
        liarTerm();
        lotTerm();
        report();
        forget();
        lone();
        liar();
        seed();
        lot();
        times();
        Check.end("StrangersBoundsTest");
    }

    private static void due(String call, long got, long want) {
        Check.due(call, got, want);
    }

    /** How many LONE KEYS FIT one REPORT, by SUNS as they are at first. */
    private static int fit(int k, int asked, int least, int most) {
        IceKeys x = new IceKeys();
        x.report(k, asked, least, most);
        return x.lone(0);
    }

    // DOC T3: A REPORT (6 at most): behind k HALTS (0 to 15; from HALT 0 on) TEETH were (asked 0; 0 to 99), or its SHAPE was (1; 0 to 9), from LEAST to MOST.
    private static void reportTerm() {
        IceKeys x = new IceKeys();
        for (int r = 0; r < 6; r++) {
            due("T3: a REPORT", x.report(r, r % 2, 0, 9), r);
        }
        due("T3: no seventh", x.report(0, 0, 0, 9), -2);
        Check.edges("T3: k", 0, 15, -1, k -> new IceKeys().report(k, 0, 0, 99));
        Check.edges("T3: asked", 0, 1, -1, asked -> new IceKeys().report(0, asked, 0, 9));
        Check.edges("T3: LEAST of TEETH", 0, 99, -1, least -> new IceKeys().report(0, 0, least, 99));
        Check.edges("T3: MOST of TEETH", 0, 99, -1, most -> new IceKeys().report(0, 0, 0, most));
        Check.edges("T3: LEAST of SHAPE", 0, 9, -1, least -> new IceKeys().report(0, 1, least, 9));
        Check.edges("T3: MOST of SHAPE", 0, 9, -1, most -> new IceKeys().report(0, 1, 0, most));
        // from LEAST to MOST: both are in
        due("T3: TEETH 9 to 9", fit(0, 0, 9, 9), 50);
        due("T3: TEETH 0 to 9", fit(0, 0, 0, 9), 50);
        due("T3: TEETH 9 to 18", fit(0, 0, 9, 18), 50);
        due("T3: TEETH 9 to 19", fit(0, 0, 9, 19), 100);
        due("T3: TEETH 10 to 18", fit(0, 0, 10, 18), 0);
        due("T3: TEETH 0 to 8", fit(0, 0, 0, 8), 0);
        due("T3: TEETH 0 to 99", fit(0, 0, 0, 99), 500);
        due("T3: TEETH 0 to 98", fit(0, 0, 0, 98), 450);
        due("T3: TEETH 99 to 99", fit(0, 0, 99, 99), 50);
        // SHAPE 0 at first: sleeves by 9 (10), thirds by 9 (10), by 19 (6), by 29 (2), salts by 9 (10), spares by 9 (10)
        due("T3: SHAPE 0", fit(0, 1, 0, 0), 48);
        // SHAPE 8: sleeves by 79 (10), thirds by 79 (4), by 89 (4), by 99 (2), salts and spares by 99 (20)
        due("T3: SHAPE 8", fit(0, 1, 8, 8), 40);
        // SHAPE 9: sleeves by 89 (10), thirds by 89 (4), by 99 (4)
        due("T3: SHAPE 9", fit(0, 1, 9, 9), 18);
        // all but SHAPE 10: sleeves by 99 (10), thirds by 99 in STRAW 0 to 3 (4)
        due("T3: SHAPE 0 to 9", fit(0, 1, 0, 9), 486);
    }

    // DOC T3: A LONE KEY is a KIND (1 to 5; its number 0), STRAW, TEETH at first (9, 19, .. 99), with no others of its GATE, told nothing.
    private static void loneTerm() {
        due("T3: KINDS, STRAW 0 to 9, TEETH 9 to 99", new IceKeys().lone(0), 500);
        for (int teeth = 0; teeth <= 99; teeth++) {
            due("T3: TEETH " + teeth + " at first", fit(0, 0, teeth, teeth), teeth % 10 == 9 ? 50 : 0);
        }
        // behind 15 HALTS 84 of 99: a third in STRAW 9 (1 each), salts in STRAW 0 to 2 (1 each)
        IceKeys x = new IceKeys();
        x.report(0, 0, 99, 99);
        x.report(15, 0, 84, 84);
        due("T3: four of them", x.lone(0), 4);
        due("T3: the third", x.lone(1), 3);
        due("T3: in STRAW 9", x.lone(2), 9);
        due("T3: by 99", x.lone(3), 99);
        // neither other KEYS of a GATE, nor RULES, nor HALT, nor END count
        for (int k = 0; k < 6; k++) {
            x.key(4, 99, 0, 0);
        }
        Check.tell(x, "key chill;");
        x.sun(15, 2);
        x.ends(1);
        x.halt();
        due("T3: four as ever", x.lone(0), 4);
        // its number is 0: a spare is shaped as a salt
        IceKeys y = new IceKeys();
        y.report(0, 0, 99, 99);
        y.report(0, 1, 8, 8);
        due("T3: thirds in STRAW 8, 9, salts, spares", y.lone(0), 22);
        // KIND 5 is one: it alone MELTS more later, by 99 in STRAW 9 in HALTS 9 to 14 alone, 9 in all
        IceKeys z = new IceKeys();
        z.report(0, 0, 99, 99);
        z.report(9, 0, 99, 99);
        z.report(15, 0, 90, 90);
        due("T3: the spare in STRAW 9", z.lone(0), 1);
        due("T3: KIND 5", z.lone(1), 5);
        due("T3: STRAW 9", z.lone(2), 9);
    }

    // DOC T3: Those that FIT: by which each REPORT is so, by SUNS as they are.
    private static void fitTerm() {
        IceKeys x = new IceKeys();
        x.report(0, 0, 99, 99);
        x.report(15, 0, 84, 84);
        due("T3: each is so", x.lone(0), 4);
        x.sun(15, 12);
        due("T3: HALT 15 isn't ahead of it", x.lone(0), 4);
        x.sun(14, 0);
        due("T3: HALT 14 is", x.lone(0), 0);
        x.sun(14, 5);
        x.sun(0, 0);
        due("T3: HALT 0 is", x.lone(0), 0);
        x.sun(0, 5);
        due("T3: as ever", x.lone(0), 4);
        x.report(1, 0, 0, 97);
        due("T3: each, the third, too", x.lone(0), 0);
        // behind 0 HALTS no SUN counts, behind 1 that of HALT 0 alone
        IceKeys y = new IceKeys();
        y.report(0, 0, 19, 19);
        y.sun(0, 15);
        due("T3: behind 0", y.lone(0), 50);
        y.report(1, 0, 19, 19);
        due("T3: irons behind 1 by HEAT 3", y.lone(0), 10);
        y.sun(1, 15);
        y.sun(0, 3);
        // by SUN 3: irons, sleeves in STRAW 9 (3 less 3), thirds in STRAW 3 to 9 (1 less 1), salts, spares
        due("T3: behind 1 by HEAT 0, SHADE 3", y.lone(0), 38);
        // TEETH are 0 at least, and stay so: by 9 a sleeve, a third are at 0 behind 15; a salt and a spare in little STRAW
        IceKeys z = new IceKeys();
        z.report(0, 0, 9, 9);
        z.report(15, 0, 0, 0);
        due("T3: at 0", z.lone(0), 10 + 10 + 3 + 10);
    }

    // DOC T3: LIAR: if none FITS, the least REPORT but for which some would.
    private static void liarTerm() {
        IceKeys x = new IceKeys();
        due("T3: all FIT", x.liar(), -3);
        x.report(0, 0, 9, 9);
        due("T3: some FIT", x.liar(), -3);
        x.report(0, 0, 19, 19);
        due("T3: the least of two", x.liar(), 0);
        x.report(0, 0, 9, 9);
        due("T3: REPORT 1", x.liar(), 1);
        x.report(0, 0, 19, 19);
        due("T3: two against two", x.liar(), -3);
        // the sixth
        IceKeys y = new IceKeys();
        for (int r = 0; r < 5; r++) {
            y.report(r, 0, 99, 99);
        }
        y.report(0, 0, 10, 10);
        due("T3: REPORT 5", y.liar(), 5);
        IceKeys one = new IceKeys();
        one.report(0, 0, 0, 0);
        due("T3: the only one", one.liar(), 0);
    }

    // DOC T3: LOT: A HALT by chance: z (an int; 1 at first) becomes z * 1103515245 + 12345; the ACT in it is what z >>> 16 leaves by how many KEYS there are and 1.
    private static void lotTerm() {
        int[][] nexts = {{1, 1103527590}, {0, 12345}, {2, -2087924461}, {-1, -1103502900},
            {Integer.MAX_VALUE, 1043980748}, {Integer.MIN_VALUE, -2147471303}};
        for (int[] next : nexts) {
            IceKeys x = new IceKeys();
            x.seed(next[0]);
            x.lot();
            due("T3: z behind " + next[0], x.seed(0), next[1]);
        }
        IceKeys first = new IceKeys();
        due("T3: z at first", first.seed(1), 1);
        // z >>> 16 is 16838 behind 1, 33676 behind 2 (whose z is below 0)
        int[] behindOne = {0, 0, 2, 2, 3, 2, 3};
        int[] behindTwo = {0, 0, 1, 0, 1, 4, 6};
        for (int keys = 0; keys <= 6; keys++) {
            due("T3: ACT of " + keys + " KEYS behind 1", act(keys, 1), behindOne[keys]);
            due("T3: ACT of " + keys + " KEYS behind 2", act(keys, 2), behindTwo[keys]);
        }
    }

    /** The ACT by LOT behind z: which of so many irons is TURNED then, and 1 more. */
    private static int act(int keys, int z) {
        IceKeys x = new IceKeys();
        x.gate(0, 0, 5);
        for (int k = 0; k < keys; k++) {
            x.key(1, 50, 0, 0);
        }
        x.seed(z);
        x.lot();
        int set = x.state(4);
        return set == 0 ? 0 : 32 - Integer.numberOfLeadingZeros(set);
    }

    // DOC 30: A REPORT: its number. BAD: also MOST below LEAST; FULL.
    private static void report() {
        Check.edges("30: k", 0, 15, -1, k -> new IceKeys().report(k, 1, 0, 9));
        Check.edges("30: asked", 0, 1, -1, asked -> new IceKeys().report(15, asked, 0, 9));
        for (int asked = 0; asked <= 1; asked++) {
            int it = asked;
            int most = asked == 0 ? 99 : 9;
            Check.edges("30: LEAST, asked " + asked, 0, most, -1, v -> new IceKeys().report(0, it, v, most));
            Check.edges("30: MOST, asked " + asked, 0, most, -1, v -> new IceKeys().report(0, it, 0, v));
            for (int v = 0; v <= most; v++) {
                due("30: MOST is LEAST", new IceKeys().report(0, asked, v, v), 0);
                due("30: MOST is below LEAST", new IceKeys().report(0, asked, v, v - 1), -1);
            }
            due("30: the most below it", new IceKeys().report(0, asked, most, 0), -1);
            due("30: both above", new IceKeys().report(0, asked, most + 1, most + 1), -1);
            due("30: both below", new IceKeys().report(0, asked, -1, -1), -1);
        }
        IceKeys x = new IceKeys();
        for (int r = 0; r < 6; r++) {
            due("30: its number", x.report(0, 0, 0, 99), r);
            due("30: how many", x.many(3), r + 1);
        }
        due("30: FULL", x.report(0, 0, 0, 99), -2);
        due("30: BAD ahead of FULL", x.report(0, 0, 1, 0), -1);
        due("30: BAD ahead of FULL", x.report(16, 0, 0, 0), -1);
        due("30: six", x.many(3), 6);
    }

    // DOC 31: There are no REPORTS: how many there were.
    private static void forget() {
        IceKeys x = new IceKeys();
        due("31: none", x.forget(), 0);
        for (int r = 0; r < 6; r++) {
            x.report(0, 0, 0, 0);
        }
        due("31: six", x.forget(), 6);
        due("31: none then", x.many(3), 0);
        due("31: all FIT", x.lone(0), 500);
        due("31: none any more", x.forget(), 0);
        due("31: room again, numbered from 0", x.report(0, 0, 9, 9), 0);
        due("31: it alone counts", x.lone(0), 50);
    }

    // DOC 32: LONE KEYS that FIT: what = 0 how many; of that with the least KIND, of these the least STRAW, of these the least TEETH: 1 KIND, 2 STRAW, 3 TEETH at first. BAD; NONE (of 1, 2, 3): there are none.
    private static void lone() {
        Check.edges("32: what", 0, 3, -1, what -> new IceKeys().lone(what));
        due("32: the least KIND", new IceKeys().lone(1), 1);
        due("32: the least STRAW", new IceKeys().lone(2), 0);
        due("32: the least TEETH", new IceKeys().lone(3), 9);
        IceKeys x = new IceKeys();
        x.report(0, 0, 0, 8);
        due("32: none", x.lone(0), 0);
        for (int what = 1; what <= 3; what++) {
            due("32: NONE", x.lone(what), -3);
        }
        due("32: BAD ahead of NONE", x.lone(4), -1);
        due("32: BAD ahead of NONE", x.lone(-1), -1);
        // KIND ahead of STRAW ahead of TEETH
        IceKeys y = new IceKeys();
        y.report(0, 1, 4, 4);
        due("32: sleeves by 49, thirds by 49, 59 and 69, salts and spares by 49 and 59", y.lone(0), 10 + 4 + 2 + 20 + 20);
        due("32: a sleeve", y.lone(1), 2);
        due("32: in STRAW 0", y.lone(2), 0);
        due("32: by 49", y.lone(3), 49);
        y.report(1, 0, 41, 43);
        due("32: sleeves in STRAW 3 to 9 are 8, 7, 6 less", y.lone(1), 2);
        due("32: the least STRAW of these", y.lone(2), 3);
        due("32: their TEETH", y.lone(3), 49);
        // the last of all
        IceKeys last = new IceKeys();
        last.report(0, 0, 99, 99);
        last.report(9, 0, 99, 99);
        last.report(10, 0, 99, 99);
        last.report(13, 0, 97, 98);
        due("32: none so", last.lone(0), 0);
        last.forget();
        last.report(0, 0, 99, 99);
        last.report(9, 0, 99, 99);
        last.report(10, 0, 0, 98);
        due("32: a spare in STRAW 9", last.lone(0), 1);
        due("32: KIND 5", last.lone(1), 5);
        due("32: STRAW 9", last.lone(2), 9);
        due("32: TEETH 99", last.lone(3), 99);
    }

    // DOC 33: LIAR. NONE: some FIT; or there is no such REPORT.
    private static void liar() {
        due("33: no REPORTS, all FIT", new IceKeys().liar(), -3);
        IceKeys x = new IceKeys();
        x.report(0, 0, 9, 99);
        due("33: all FIT", x.liar(), -3);
        x.report(0, 0, 99, 99);
        due("33: some FIT", x.liar(), -3);
        x.report(0, 0, 0, 0);
        due("33: REPORT 2", x.liar(), 2);
        x.report(0, 0, 0, 0);
        due("33: there is no such one", x.liar(), -3);
        due("33: it is but asked", x.many(3), 4);
        // by one REPORT all but one KEY are out: it FITS, so there is no LIAR
        IceKeys one = new IceKeys();
        one.report(0, 0, 99, 99);
        one.report(9, 0, 99, 99);
        one.report(10, 0, 0, 98);
        due("33: one FITS", one.lone(0), 1);
        due("33: so none", one.liar(), -3);
    }

    // DOC 34: z becomes v: what it was.
    private static void seed() {
        IceKeys x = new IceKeys();
        int was = 1;
        for (int v : new int[] {0, -1, Integer.MIN_VALUE, Integer.MAX_VALUE, 7, -3, -11}) {
            due("34: what it was", x.seed(v), was);
            was = v;
        }
        due("34: what it was", x.seed(1), -11);
    }

    // DOC 35: A HALT by LOT: what it was WORTH. STATE: it is OVER.
    private static void lot() {
        IceKeys x = Check.twoIrons();
        x.ends(1);
        due("35: the last HALT: KEY 1", x.lot(), 9);
        due("35: SCORE", x.state(2), 9);
        due("35: z went on", x.seed(7), 1103527590);
        due("35: OVER", x.lot(), -4);
        due("35: z is as it was", x.seed(7), 7);
        due("35: HALT is as it was", x.state(0), 1);
        due("35: SCORE is as it was", x.state(2), 9);
        IceKeys none = new IceKeys();
        none.ends(16);
        for (int h = 0; h < 16; h++) {
            due("35: no KEYS", none.lot(), 0);
        }
        due("35: OVER at 16", none.lot(), -4);
    }

    // DOC 36: How many of n (1 to 40) times all HALTS yet by LOT, each from how it is now (z goes on from one to the next), are WORTH v (0 to 999) or more (all is as it was in the end, z, too). BAD.
    private static void times() {
        Check.edges("36: n", 1, 40, -1, n -> Check.twoIrons().times(n, 0));
        Check.edges("36: v", 0, 999, -1, v -> Check.twoIrons().times(1, v));
        due("36: one time, WORTH 0 or more", Check.twoIrons().times(1, 0), 1);
        due("36: 40 times, WORTH 0 or more", Check.twoIrons().times(40, 0), 40);
        due("36: 40 times, WORTH 999 or more", Check.twoIrons().times(40, 999), 0);
        // one HALT with two KEYS by z = 1: ACTS 2, 0, 0, 0, 0, 1: WORTH 9, 0, 0, 0, 0, 7
        IceKeys x = Check.twoIrons();
        x.ends(1);
        int[] nine = {0, 1, 1, 1, 1, 1, 1};
        int[] seven = {0, 1, 1, 1, 1, 1, 2};
        for (int n = 1; n <= 6; n++) {
            due("36: 9 or more of " + n, x.times(n, 9), nine[n]);
            due("36: 10 or more of " + n, x.times(n, 10), 0);
            due("36: 7 or more of " + n, x.times(n, 7), seven[n]);
            due("36: 8 or more of " + n, x.times(n, 8), nine[n]);
        }
        due("36: z is as it was", x.seed(1), 1);
        due("36: HALT is as it was", x.state(0), 0);
        due("36: none is TURNED", x.state(4), 0);
        due("36: SCORE is as it was", x.state(2), 0);
        due("36: TEETH are as they were", x.state(6), 80);
        // all HALTS yet: six of them, both are TURNED in HALTS 0 and 5: 9, 1, 1, 1, 1, 8
        x.ends(6);
        due("36: 21 or more", x.times(1, 21), 1);
        due("36: 22 or more", x.times(1, 22), 0);
        // sixteen HALTS, six KEYS that are TURNED: whatever the ACTS are, each HALT is WORTH 6
        IceKeys six = new IceKeys();
        for (int k = 0; k < 6; k++) {
            six.key(1, 99, 0, 0);
            six.change(k, 4, 1);
        }
        six.ends(16);
        due("36: 96 or more", six.times(40, 96), 40);
        due("36: 97 or more", six.times(40, 97), 0);
        six.ends(1);
        due("36: one HALT, 6 or more", six.times(40, 6), 40);
        due("36: one HALT, 7 or more", six.times(40, 7), 0);
        x.halt();
        x.ends(1);
        due("36: OVER, 0 or more", x.times(40, 0), 40);
        due("36: OVER, 1 or more", x.times(40, 1), 0);
        due("36: OVER, BAD", x.times(41, 0), -1);
        // how it is now: SCORE counts nothing
        IceKeys y = Check.twoIrons();
        y.halt();
        y.ends(2);
        y.seed(0);
        due("36: 1 in the HALT by ACT 0", y.times(1, 1), 1);
        due("36: SCORE of 7 counts nothing", y.times(1, 2), 0);
    }
}
