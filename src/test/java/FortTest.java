/** Promises 1 to 11: the fort, keys. */
public final class FortTest {
    public static void main(String[] args) {
        aNewObject();
        key();
        keyOfPlain();
        melts();
        meltsByOthers();
        shapes();
        pays();
        wills();
        change();
        remake();
        sun();
        gates();
        ends();
        anew();
        state();
        Check.end("FortTest");
    }

    private static void due(String call, long got, long want) {
        Check.due(call, got, want);
    }

    private static void aNewObject() {
        IceKeys x = new IceKeys();
        for (int what = 0; what <= 6; what++) {
            due("1: many(" + what + ")", x.many(what), 0);
        }
        due("1: again", x.again(), -3);
        due("1: HALT", x.state(0), 0);
        due("1: END", x.state(1), 12);
        due("1: SCORE", x.state(2), 0);
        for (int f = 0; f < 6; f++) {
            due("1: WARD", x.gateOf(f, 0), 0);
            due("1: SLACK", x.gateOf(f, 1), 0);
        }
        for (int h = 0; h < 16; h++) {
            due("1: SUN of " + h, x.sun(h, 5), 5);
        }
        due("1: z", x.seed(1), 1);
        for (int i = 0; i < 4; i++) {
            due("1: SHEET missing", x.write(i, 0, 0), -11);
            due("1: SHELF with nothing", x.taken(i, 0), -11);
        }
        due("1: an object of its own", new IceKeys().many(0), 0);
    }

    private static void key() {
        IceKeys x = new IceKeys();
        int[][] bad = {{0, 1, 1, 1}, {6, 1, 1, 1}, {-1, 1, 1, 1}, {1, -1, 1, 1}, {1, 100, 1, 1}, {1, 1, -1, 1},
            {1, 1, 10, 1}, {1, 1, 1, -1}, {1, 1, 1, 6}, {Integer.MAX_VALUE, 1, 1, 1}, {1, Integer.MIN_VALUE, 1, 1}};
        for (int[] b : bad) {
            due("2: bad key", x.key(b[0], b[1], b[2], b[3]), -1);
        }
        due("2: none was made", x.many(0), 0);
        due("2: key", x.key(1, 0, 0, 0), 0);
        due("2: key", x.key(2, 99, 9, 5), 1);
        due("2: key", x.key(3, 99, 9, 5), 2);
        due("2: key", x.key(4, 1, 2, 3), 3);
        due("2: key", x.key(5, 1, 2, 3), 4);
        due("2: key", x.key(1, 7, 8, 4), 5);
        due("2: full", x.key(1, 7, 8, 4), -2);
        due("2: bad ahead of full", x.key(1, 7, 8, 6), -1);
        due("2: many", x.many(0), 6);
        due("2: kind", x.keyOf(5, 0), 1);
        due("2: teeth", x.keyOf(5, 1), 7);
        due("2: straw", x.keyOf(5, 2), 8);
        due("2: gate", x.keyOf(5, 3), 4);
        due("2: not turned", x.keyOf(5, 4), 0);
    }

    private static void keyOfPlain() {
        IceKeys x = new IceKeys();
        due("3: no key", x.keyOf(0, 0), -1);
        x.key(3, 44, 5, 2);
        due("3: kind", x.keyOf(0, 0), 3);
        due("3: teeth", x.keyOf(0, 1), 44);
        due("3: straw", x.keyOf(0, 2), 5);
        due("3: gate", x.keyOf(0, 3), 2);
        due("3: turned", x.keyOf(0, 4), 0);
        x.change(0, 4, 1);
        due("3: turned", x.keyOf(0, 4), 1);
        due("3: below", x.keyOf(-1, 0), -1);
        due("3: above", x.keyOf(1, 0), -1);
        due("3: what below", x.keyOf(0, -1), -1);
        due("3: what above", x.keyOf(0, 10), -1);
    }

    /** One KEY alone with STRAW 0, at each SUN: what it MELTS. */
    private static void melts() {
        int[] sleeve = {6, 5, 4, 3, 10, 9, 8, 7, 14, 13, 12, 11, 18, 17, 16, 15};
        int[] third = {3, 2, 2, 1, 5, 4, 4, 3, 7, 6, 6, 5, 9, 8, 8, 7};
        int[] salt = {0, 0, 0, 0, 1, 1, 1, 1, 4, 4, 4, 4, 9, 9, 9, 9};
        for (int kind = 1; kind <= 5; kind++) {
            IceKeys x = new IceKeys();
            x.key(kind, 50, 0, 0);
            for (int sun = 0; sun < 16; sun++) {
                x.sun(0, sun);
                int want = kind == 1 ? 0 : kind == 2 ? sleeve[sun] : kind == 3 ? third[sun] : salt[sun];
                due("3: melts, kind " + kind + ", sun " + sun, x.keyOf(0, 5), want);
            }
        }
        int[] straw = {18, 18, 18, 17, 17, 17, 16, 16, 16, 15};
        for (int s = 0; s <= 9; s++) {
            IceKeys x = new IceKeys();
            x.sun(0, 12);
            x.key(2, 50, s, 0);
            due("3: melts in straw " + s, x.keyOf(0, 5), straw[s]);
        }
        IceKeys x = new IceKeys();
        x.ends(16);
        x.key(5, 99, 0, 0);
        x.gate(0, 0, 9);
        int[] spare = {1, 1, 1, 2, 2, 2, 3, 3, 3, 4, 4, 4, 5, 5, 5, 6, 5};
        for (int h = 0; h <= 16; h++) {
            due("3: a spare melts at halt " + h, x.keyOf(0, 5), spare[h]);
            x.halt();
        }
        due("3: behind halt 15 the sun is 0", x.state(5), 0);
    }

    private static void meltsByOthers() {
        IceKeys x = new IceKeys();
        x.sun(0, 8);
        x.key(4, 50, 0, 0);
        x.key(1, 50, 0, 0);
        x.key(1, 0, 0, 0);
        x.key(1, 50, 0, 1);
        due("3: two others of its gate", x.keyOf(0, 5), 2);
        x.change(1, 4, 1);
        due("3: one of them turned", x.keyOf(0, 5), 3);
        x.change(0, 4, 1);
        due("3: itself turned", x.keyOf(0, 5), 3);
        x.change(2, 3, 5);
        due("3: none of its gate", x.keyOf(0, 5), 4);
        x.change(0, 2, 9);
        x.change(1, 4, 0);
        due("3: straw and one other", x.keyOf(0, 5), 0);
        x.sun(0, 4);
        due("3: 0 at least", x.keyOf(0, 5), 0);
        x.sun(0, 8);
        x.change(0, 4, 0);
        x.remake(1, 4);
        due("3: the first is one of the others", x.keyOf(1, 5), 3);
    }

    private static void shapes() {
        int[] teeth = {0, 9, 10, 11, 12, 23, 24, 49, 50, 60, 89, 90, 96, 99};
        int[] sleeve = {0, 0, 1, 1, 1, 2, 2, 4, 6, 7, 9, 10, 10, 10};
        int[] salt = {0, 0, 0, 0, 1, 1, 2, 4, 4, 5, 7, 7, 8, 8};
        for (int i = 0; i < teeth.length; i++) {
            IceKeys x = new IceKeys();
            x.key(1, teeth[i], 3, 0);
            x.key(2, teeth[i], 9, 0);
            x.key(3, teeth[i], 8, 0);
            x.key(4, teeth[i], 9, 0);
            x.key(5, teeth[i], 9, 0);
            due("3: iron's shape", x.keyOf(0, 6), 5);
            due("3: sleeve's shape by " + teeth[i], x.keyOf(1, 6), sleeve[i]);
            due("3: third's shape by " + teeth[i], x.keyOf(2, 6), Math.max(0, sleeve[i] - 2));
            due("3: salt's shape by " + teeth[i], x.keyOf(3, 6), salt[i]);
            due("3: spare's shape by " + teeth[i], x.keyOf(4, 6), Math.min(9, salt[i] + 4));
        }
    }

    private static void pays() {
        IceKeys x = new IceKeys();
        x.key(1, 99, 0, 0);
        due("3: ward 0 is not 5", x.keyOf(0, 7), 0);
        x.gate(0, 0, 5);
        due("3: pays by 99 teeth", x.keyOf(0, 7), 9);
        x.change(0, 1, 19);
        due("3: pays by 19 teeth", x.keyOf(0, 7), 5);
        x.change(0, 1, 20);
        due("3: pays by 20 teeth", x.keyOf(0, 7), 6);
        x.change(0, 1, 1);
        due("3: pays by 1 tooth", x.keyOf(0, 7), 5);
        x.change(0, 1, 0);
        due("3: no teeth fit nothing", x.keyOf(0, 7), 0);
        due("3: may not turn", x.keyOf(0, 8), 0);
        x.change(0, 1, 1);
        x.change(0, 4, 1);
        due("3: turned pays 0", x.keyOf(0, 7), 0);
        due("3: turned may not turn", x.keyOf(0, 8), 0);
        x.change(0, 4, 0);
        due("3: may turn", x.keyOf(0, 8), 1);
        int[] reach = {0, 0, 0, 0, 1, 1, 1, 1, 2, 2};
        for (int slack = 0; slack <= 9; slack++) {
            x.gate(0, 1, slack);
            for (int ward = 0; ward <= 9; ward++) {
                x.gate(0, 0, ward);
                due("3: ward " + ward + ", slack " + slack, x.keyOf(0, 7), Math.abs(ward - 5) <= reach[slack] ? 5 : 0);
            }
        }
    }

    private static void wills() {
        IceKeys x = new IceKeys();
        x.gate(0, 0, 5);
        x.key(1, 50, 0, 0);
        x.key(2, 50, 0, 0);
        due("3: will without rules", x.keyOf(0, 9), 0);
        Check.tell(x, "iron carry; key chill;");
        due("3: carry", x.keyOf(0, 9), 1);
        due("3: pays all the same", x.keyOf(0, 7), 7);
        due("3: but may not turn", x.keyOf(0, 8), 0);
        due("3: chill", x.keyOf(1, 9), 2);
        x.change(0, 4, 1);
        due("3: a turned one has a will, too", x.keyOf(0, 9), 1);
    }

    private static void change() {
        IceKeys x = new IceKeys();
        due("4: no key", x.change(0, 1, 1), -1);
        x.key(1, 10, 2, 3);
        due("4: teeth", x.change(0, 1, 99), 10);
        due("4: teeth", x.change(0, 1, 0), 99);
        due("4: straw", x.change(0, 2, 9), 2);
        due("4: straw", x.change(0, 2, 0), 9);
        due("4: gate", x.change(0, 3, 5), 3);
        due("4: gate", x.change(0, 3, 0), 5);
        due("4: turned", x.change(0, 4, 1), 0);
        due("4: turned", x.change(0, 4, 1), 1);
        due("4: set of turned", x.state(4), 1);
        due("4: not turned", x.change(0, 4, 0), 1);
        due("4: set of turned", x.state(4), 0);
        int[][] bad = {{0, 0, 1}, {0, 5, 1}, {0, 1, 100}, {0, 1, -1}, {0, 2, 10}, {0, 2, -1}, {0, 3, 6}, {0, 3, -1},
            {0, 4, 2}, {0, 4, -1}, {1, 1, 1}, {-1, 1, 1}, {6, 4, 1}};
        for (int[] b : bad) {
            due("4: bad change " + b[0] + " " + b[1] + " " + b[2], x.change(b[0], b[1], b[2]), -1);
        }
        due("4: kind stays", x.keyOf(0, 0), 1);
        due("4: teeth", x.keyOf(0, 1), 0);
        due("4: straw", x.keyOf(0, 2), 0);
        due("4: gate", x.keyOf(0, 3), 0);
        due("4: turned", x.keyOf(0, 4), 0);
    }

    private static void remake() {
        IceKeys x = new IceKeys();
        due("5: no key", x.remake(0, 1), -1);
        x.key(2, 60, 1, 2);
        x.change(0, 4, 1);
        due("5: remake", x.remake(0, 5), 2);
        due("5: kind", x.keyOf(0, 0), 5);
        due("5: its shape is a spare's", x.keyOf(0, 6), 5);
        due("5: teeth stay", x.keyOf(0, 1), 60);
        due("5: straw stays", x.keyOf(0, 2), 1);
        due("5: gate stays", x.keyOf(0, 3), 2);
        due("5: turned stays", x.keyOf(0, 4), 1);
        due("5: kind 0", x.remake(0, 0), -1);
        due("5: kind 6", x.remake(0, 6), -1);
        due("5: kind -1", x.remake(0, -1), -1);
        due("5: no such key", x.remake(1, 1), -1);
        due("5: remake", x.remake(0, 1), 5);
        due("5: remake", x.remake(0, 4), 1);
    }

    private static void sun() {
        IceKeys x = new IceKeys();
        due("6: sun", x.sun(0, 15), 5);
        due("6: sun", x.sun(0, 0), 15);
        due("6: sun", x.sun(15, 7), 5);
        due("6: sun", x.sun(15, 5), 7);
        due("6: halt below", x.sun(-1, 5), -1);
        due("6: halt above", x.sun(16, 5), -1);
        due("6: below", x.sun(0, -1), -1);
        due("6: above", x.sun(0, 16), -1);
        due("6: it is so", x.state(5), 0);
    }

    private static void gates() {
        IceKeys x = new IceKeys();
        due("7: ward", x.gate(5, 0, 9), 0);
        due("7: slack", x.gate(5, 1, 8), 0);
        due("8: ward", x.gateOf(5, 0), 9);
        due("8: slack", x.gateOf(5, 1), 8);
        due("7: ward", x.gate(5, 0, 0), 9);
        due("7: slack", x.gate(5, 1, 0), 8);
        due("8: others are as they were", x.gateOf(4, 0) + x.gateOf(0, 1), 0);
        int[][] bad = {{-1, 0, 1}, {6, 0, 1}, {0, -1, 1}, {0, 2, 1}, {0, 0, -1}, {0, 0, 10}, {0, 1, -1}, {0, 1, 10}};
        for (int[] b : bad) {
            due("7: bad gate " + b[0] + " " + b[1] + " " + b[2], x.gate(b[0], b[1], b[2]), -1);
        }
        int[][] badOf = {{-1, 0}, {6, 0}, {0, -1}, {0, 2}};
        for (int[] b : badOf) {
            due("8: bad gateOf " + b[0] + " " + b[1], x.gateOf(b[0], b[1]), -1);
        }
        due("7: unchanged", x.gateOf(0, 0) + x.gateOf(0, 1), 0);
    }

    private static void ends() {
        IceKeys x = new IceKeys();
        due("9: too small", x.ends(0), -1);
        due("9: too large", x.ends(17), -1);
        due("9: ends", x.ends(16), 12);
        due("9: ends", x.ends(1), 16);
        x.halt();
        due("9: over", x.state(3), 1);
        due("9: ends", x.ends(5), 1);
        due("9: no more over", x.state(3), 0);
        x.halt();
        x.halt();
        due("9: below halt", x.ends(2), -4);
        due("9: bad ahead of state", x.ends(0), -1);
        due("9: halt itself", x.ends(3), 5);
        due("9: over", x.state(3), 1);
    }

    private static void anew() {
        IceKeys x = new IceKeys();
        x.gate(0, 0, 5);
        x.key(1, 40, 0, 0);
        x.key(4, 40, 0, 1);
        x.halt();
        x.halt();
        due("10: score", x.state(2), 9);
        due("10: anew", x.anew(), 2);
        due("10: halt", x.state(0), 0);
        due("10: score", x.state(2), 0);
        due("10: none turned", x.state(4), 0);
        due("10: teeth stay", x.keyOf(1, 1), 38);
        due("10: again", x.anew(), 0);
    }

    private static void state() {
        IceKeys x = Check.five();
        due("11: teeth", x.state(6), 299);
        x.sun(1, 9);
        x.halt();
        due("11: halt", x.state(0), 1);
        due("11: end", x.state(1), 12);
        due("11: score", x.state(2), 7);
        due("11: over", x.state(3), 0);
        due("11: turned", x.state(4), 1);
        due("11: sun", x.state(5), 9);
        due("11: teeth", x.state(6), 288);
        due("11: below", x.state(-1), -1);
        due("11: above", x.state(7), -1);
        x.change(4, 4, 1);
        due("11: turned", x.state(4), 17);
        x.ends(1);
        due("11: over", x.state(3), 1);
    }
}
