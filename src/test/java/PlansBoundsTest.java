/** The bounds that the document's terms name about PLANS and a GAME, and promises 23 to 29: a test for each sentence. */
public final class PlansBoundsTest {
    public static void main(String[] args) {
        plan();
        worth();
        bestAndFirst();
        orderTerm();
        barTerm();
        gameTerm();
        value();
        best();
        ith();
        ways();
        order();
        bars();
        game();
        play();
        Check.end("PlansBoundsTest");
    }

    private static void due(String call, long got, long want) {
        Check.due(call, got, want);
    }

    private static IceKeys over(IceKeys x) {
        x.ends(1);
        x.halt();
        return x;
    }

    /** Irons of no TEETH: no ACT changes anything. */
    private static IceKeys idle(int keys) {
        IceKeys x = new IceKeys();
        for (int k = 0; k < keys; k++) {
            x.key(1, 0, 0, 0);
        }
        return x;
    }

    /** An iron that FITS only if it is told in this HALT, by a RULE. */
    private static IceKeys onlyAt(int halt) {
        IceKeys x = new IceKeys();
        x.gate(0, 0, 5);
        x.key(1, 40, 0, 0);
        Check.tell(x, "iron if not halt = " + halt + " carry;");
        return x;
    }

    /** A salt of SHAPE 6 for WARD 8 in SHADE without HEAT: two chills, then it can be turned. */
    private static IceKeys chilled() {
        IceKeys x = new IceKeys();
        x.gate(0, 0, 8);
        x.key(4, 82, 0, 0);
        for (int h = 0; h < 4; h++) {
            x.sun(h, 2);
        }
        Check.tell(x, "salt if teeth < 96 chill;");
        return x;
    }

    /** A salt that FITS WARD 1 from HALT 2 on, if it isn't chilled till then, as whoever tells it does. */
    private static IceKeys mustWait() {
        IceKeys x = new IceKeys();
        x.gate(0, 0, 1);
        x.key(4, 25, 0, 0);
        for (int h = 0; h < 3; h++) {
            x.sun(h, 6);
        }
        Check.tell(x, "salt if halt < 2 chill;");
        return x;
    }

    // DOC T3: A PLAN of n: n HALTS (fewer, if it is OVER), ahead of each an ACT: 0 none is told, or 1 more than the number of the KEY that is.
    private static void plan() {
        // as many PLANS as there are rows of ACTS 0 to the number of KEYS, if none changes anything
        for (int keys = 0; keys <= 6; keys++) {
            int plans = 1;
            for (int n = 0; n <= 4; n++) {
                due("T3: PLANS of " + n + " with KEYS " + keys, idle(keys).ways(n), plans);
                plans *= keys + 1;
            }
        }
        IceKeys x = idle(6);
        x.ends(3);
        due("T3: three HALTS yet", x.ways(4), 343);
        x.ends(1);
        due("T3: one HALT yet", x.ways(4), 7);
        due("T3: OVER: the PLAN of none", over(idle(6)).ways(4), 1);
        // the ACT of KEY 5 is 6
        IceKeys six = idle(5);
        six.gate(1, 0, 5);
        six.key(1, 1, 0, 1);
        due("T3: KEY 5 is told", six.ith(1, 0), 6);
        due("T3: no other", six.ways(1), 1);
    }

    // DOC T3: Its WORTH: of these HALTS together.
    private static void worth() {
        IceKeys x = Check.twoIrons();
        due("T3: none", x.best(0), 0);
        due("T3: 8 and 1", x.best(1), 9);
        due("T3: 6, 8, 1 and 2", x.best(2), 17);
        x.halt();
        due("T3: SCORE counts nothing", x.best(1), 10);
        due("T3: HALTS that went by count nothing", x.best(0), 0);
        // a chill is WORTH 1: 1, 1, then 9 and 1
        int[] chills = {0, 1, 2, 12, 13};
        for (int n = 0; n <= 4; n++) {
            due("T3: chills, then turned, by " + n, chilled().best(n), chills[n]);
        }
        due("T3: chilled first", chilled().ith(3, 0), 1);
        due("T3: chilled twice", chilled().ith(3, 1), 1);
        due("T3: then turned", chilled().ith(3, 2), 1);
        due("T3: no other way", chilled().ways(3), 1);
    }

    // DOC T3: BEST: those with most WORTH; the FIRST of these is that with the lesser ACT where they are unlike first.
    private static void bestAndFirst() {
        IceKeys x = Check.twoIrons();
        due("T3: BEST of 2", x.ways(2), 2);
        due("T3: 1, 2 is ahead of 2, 1", x.ith(2, 0), 1);
        due("T3: 1, 2", x.ith(2, 1), 2);
        // three that are alike: 1, 2, 3 of all six orders
        IceKeys three = new IceKeys();
        three.gate(0, 0, 5);
        for (int k = 0; k < 3; k++) {
            three.key(1, 40, 0, 0);
        }
        due("T3: six orders", three.ways(3), 6);
        for (int i = 0; i < 3; i++) {
            due("T3: 1, 2, 3", three.ith(3, i), i + 1);
        }
        // none ahead of what counts: 0 is less than 1
        IceKeys late = onlyAt(3);
        due("T3: WORTH in the fourth", late.best(4), 8);
        for (int i = 0; i < 4; i++) {
            due("T3: 0, 0, 0, 1", late.ith(4, i), i == 3 ? 1 : 0);
        }
        due("T3: 1 may stand for 0", late.ways(4), 8);
    }

    // DOC T3: ORDER by n, a set of KEYS: the fewest ACTS that aren't 0 in a PLAN of n behind which each of them is TURNED.
    private static void orderTerm() {
        IceKeys x = new IceKeys();
        x.gate(0, 0, 5);
        for (int k = 0; k < 6; k++) {
            x.key(1, 40, 0, 0);
        }
        for (int n = 0; n <= 4; n++) {
            due("T3: none by " + n, x.order(n, 0), 0);
            due("T3: one by " + n, x.order(n, 32), n < 1 ? -3 : 1);
            due("T3: two by " + n, x.order(n, 33), n < 2 ? -3 : 2);
            due("T3: four by " + n, x.order(n, 0b110011), n < 4 ? -3 : 4);
            due("T3: five by " + n, x.order(n, 0b110111), -3);
        }
        x.change(0, 4, 1);
        due("T3: four, and one that is TURNED", x.order(4, 0b110111), 4);
        due("T3: TURNED now", x.order(0, 1), 0);
        // only in the fourth HALT
        IceKeys late = onlyAt(3);
        due("T3: by 3", late.order(3, 1), -3);
        due("T3: by 4", late.order(4, 1), 1);
        // chills are ACTS, too
        due("T3: two chills", chilled().order(2, 1), -3);
        due("T3: two chills, then turned", chilled().order(3, 1), 3);
        due("T3: as few by 4", chilled().order(4, 1), 3);
        due("T3: it must wait", mustWait().order(2, 1), -3);
        due("T3: it waits, then is turned", mustWait().order(3, 1), 1);
    }

    // DOC T3: BAR: the least of them that is so behind no PLAN of n.
    private static void barTerm() {
        IceKeys x = new IceKeys();
        x.gate(0, 0, 5);
        for (int k = 0; k < 6; k++) {
            x.key(1, 40, 0, k % 2);
        }
        due("T3: KEYS 1, 3, 5 of all: the least", x.bars(4, 63), 1);
        due("T3: KEYS 3, 5", x.bars(4, 0b101000), 3);
        due("T3: KEY 5", x.bars(4, 0b110101), 5);
        // each alone by some PLAN, not all by one
        due("T3: KEYS 0, 2, 4, each behind some PLAN of 1", x.bars(1, 0b010101), -3);
        due("T3: none of them asked", x.bars(1, 0), -3);
        due("T3: behind no PLAN of 0", x.bars(0, 0b010100), 2);
        x.change(1, 4, 1);
        due("T3: KEY 1 is TURNED now", x.bars(0, 2), -3);
        due("T3: KEY 3 then", x.bars(4, 63), 3);
        IceKeys late = onlyAt(3);
        due("T3: by 3", late.bars(3, 1), 0);
        due("T3: by 4", late.bars(4, 1), -3);
        due("T3: two chills", chilled().bars(2, 1), 0);
        due("T3: two chills, then turned", chilled().bars(3, 1), -3);
        due("T3: it must wait", mustWait().bars(2, 1), 0);
        due("T3: it waits, then is turned", mustWait().bars(3, 1), -3);
    }

    // DOC T3: GAME of n: two in turn, ahead of n HALTS (till it is OVER) each an ACT (also 0); the first one wants as much WORTH as can be, the other one as little.
    private static void gameTerm() {
        // WORTH 8 in one HALT alone, which is the first one's or the other one's
        for (int h = 0; h <= 3; h++) {
            IceKeys x = onlyAt(h);
            for (int n = 1; n <= 4; n++) {
                int want = h < n && h % 2 == 0 ? 7 + n - h : 0;
                due("T3: only at HALT " + h + ", n " + n, x.game(n), want);
            }
        }
        // who begins is the first one, whatever HALT it is
        IceKeys x = onlyAt(3);
        x.halt();
        due("T3: the third from HALT 1 on", x.game(3), 8);
        x.halt();
        due("T3: the second from HALT 2 on", x.game(2), 0);
        // till it is OVER
        IceKeys last = onlyAt(2);
        last.ends(3);
        due("T3: three HALTS", last.game(4), 8);
        last.ends(2);
        due("T3: two HALTS", last.game(4), 0);
    }

    // DOC T3: VALUE: that, if both play as well as they can.
    private static void value() {
        // the other one chills KEY 0 out of its SHAPE, WORTH 1, lest it be turned, WORTH 6
        IceKeys x = new IceKeys();
        x.key(4, 5, 0, 0);
        for (int h = 0; h < 4; h++) {
            x.sun(h, 2);
        }
        Check.tell(x, "salt if halt = 1 chill; salt if halt = 0 carry;");
        due("T3: it is chilled, and can't be turned", x.game(3), 1);
        due("T3: alone it would be WORTH more", x.best(3), 6);
        IceKeys two = Check.twoIrons();
        int[] want = {0, 9, 10, 18, 20};
        for (int n = 1; n <= 4; n++) {
            due("T3: two irons by " + n, two.game(n), want[n]);
        }
    }

    // DOC 23: WORTH of the BEST PLANS of n (0 to 4). BAD.
    private static void best() {
        Check.edges("23: n", 0, 4, -1, n -> Check.twoIrons().best(n));
        due("23: of 0", Check.twoIrons().best(0), 0);
        due("23: of 4", Check.twoIrons().best(4), 21);
        due("23: no KEYS", new IceKeys().best(4), 0);
        due("23: OVER", over(Check.twoIrons()).best(4), 0);
        due("23: BAD, though it is OVER", over(Check.twoIrons()).best(5), -1);
        // as many as can be: six irons, four of which are turned
        IceKeys six = new IceKeys();
        six.gate(0, 0, 5);
        for (int k = 0; k < 6; k++) {
            six.key(1, 99, 0, 0);
        }
        due("23: six irons", six.best(4), 46);
        for (int k = 0; k < 6; k++) {
            six.change(k, 4, 1);
        }
        due("23: all TURNED", six.best(4), 24);
    }

    // DOC 24: The i-th (0 to 3) ACT of the FIRST of them. BAD; NONE: it has not so many.
    private static void ith() {
        Check.edges("24: n", 0, 4, -1, n -> Check.twoIrons().ith(n, 0));
        Check.edges("24: i", 0, 3, -1, i -> Check.twoIrons().ith(4, i));
        for (int n = 0; n <= 4; n++) {
            for (int i = 0; i <= 3; i++) {
                due("24: ith(" + n + ", " + i + ") is there", Check.twoIrons().ith(n, i) == -3 ? 0 : 1, i < n ? 1 : 0);
            }
            due("24: BAD ahead of NONE, i 4", Check.twoIrons().ith(n, 4), -1);
            due("24: BAD ahead of NONE, i -1", Check.twoIrons().ith(n, -1), -1);
        }
        due("24: BAD ahead of NONE, n", Check.twoIrons().ith(5, 3), -1);
        IceKeys x = Check.twoIrons();
        x.ends(3);
        due("24: the third", x.ith(4, 2), 0);
        due("24: no fourth", x.ith(4, 3), -3);
        due("24: OVER, not even one", over(Check.twoIrons()).ith(4, 0), -3);
        due("24: OVER, BAD", over(Check.twoIrons()).ith(4, 4), -1);
        due("24: no KEYS, ACT 0", new IceKeys().ith(4, 3), 0);
    }

    // DOC 25: How many of them there are. BAD.
    private static void ways() {
        Check.edges("25: n", 0, 4, -1, n -> Check.twoIrons().ways(n));
        due("25: of 0, the PLAN of none", Check.twoIrons().ways(0), 1);
        due("25: of 0, no KEYS", new IceKeys().ways(0), 1);
        due("25: of 1", Check.twoIrons().ways(1), 1);
        due("25: of 2", Check.twoIrons().ways(2), 2);
        due("25: of 4", Check.twoIrons().ways(4), 18);
        due("25: as many as can be", idle(6).ways(4), 2401);
        due("25: OVER", over(Check.twoIrons()).ways(4), 1);
    }

    private static final int[] NO_SETS = {Integer.MIN_VALUE, -1, -4, 4, 5, 7, 8, 64, 1 << 30, Integer.MAX_VALUE};

    // DOC 26: ORDER by n (0 to 4), a set of KEYS (of such as there are). BAD; NONE.
    private static void order() {
        Check.edges("26: n", 0, 4, -1, n -> Check.twoIrons().order(n, 0));
        Check.edges("26: a set of two", 0, 3, -1, keys -> Check.twoIrons().order(4, keys));
        Check.edges("26: a set of none", 0, 0, -1, keys -> new IceKeys().order(4, keys));
        Check.edges("26: a set of six", 0, 63, -1, keys -> idle(6).order(4, keys));
        for (int keys : NO_SETS) {
            due("26: " + keys + " is no set of KEYS 0, 1", Check.twoIrons().order(2, keys), -1);
        }
        due("26: NONE", Check.twoIrons().order(1, 3), -3);
        due("26: just enough", Check.twoIrons().order(2, 3), 2);
        due("26: BAD ahead of NONE", Check.twoIrons().order(5, 3), -1);
        due("26: BAD ahead of NONE", Check.twoIrons().order(1, 7), -1);
        due("26: OVER", over(idle(2)).order(4, 1), -3);
        due("26: OVER, none asked", over(idle(2)).order(4, 0), 0);
        due("26: OVER, TURNED", over(Check.twoIrons()).order(4, 1), 0);
    }

    // DOC 27: BAR likewise. BAD; NONE: each is so behind some.
    private static void bars() {
        Check.edges("27: n", 0, 4, -1, n -> Check.twoIrons().bars(n, 0));
        Check.edges("27: a set of two", 0, 3, -1, keys -> Check.twoIrons().bars(4, keys));
        Check.edges("27: a set of none", 0, 0, -1, keys -> new IceKeys().bars(4, keys));
        Check.edges("27: a set of six", 0, 63, -1, keys -> idle(6).bars(4, keys));
        for (int keys : NO_SETS) {
            due("27: " + keys + " is no set of KEYS 0, 1", Check.twoIrons().bars(2, keys), -1);
        }
        due("27: each is so behind some", Check.twoIrons().bars(1, 3), -3);
        due("27: n 0", Check.twoIrons().bars(0, 3), 0);
        due("27: BAD ahead of NONE", Check.twoIrons().bars(5, 0), -1);
        due("27: the last of six", idle(6).bars(4, 32), 5);
        due("27: OVER", over(idle(2)).bars(4, 2), 1);
        due("27: OVER, TURNED", over(Check.twoIrons()).bars(4, 1), -3);
    }

    // DOC 28: VALUE of a GAME of n (1 to 4). BAD.
    private static void game() {
        Check.edges("28: n", 1, 4, -1, n -> Check.twoIrons().game(n));
        due("28: of 1", Check.twoIrons().game(1), 9);
        due("28: of 4", Check.twoIrons().game(4), 20);
        due("28: OVER", over(Check.twoIrons()).game(4), 0);
        due("28: OVER, n 0", over(Check.twoIrons()).game(0), -1);
        due("28: no KEYS", new IceKeys().game(1), 0);
    }

    // DOC 29: The least ACT by which who begins comes to it. BAD; NONE: it is OVER.
    private static void play() {
        Check.edges("29: n", 1, 4, -1, n -> Check.twoIrons().play(n));
        due("29: KEY 1, of 1", Check.twoIrons().play(1), 2);
        due("29: KEY 0, of 4", Check.twoIrons().play(4), 1);
        due("29: all alike, the least", idle(6).play(4), 0);
        due("29: no KEYS", new IceKeys().play(4), 0);
        IceKeys three = new IceKeys();
        three.gate(0, 0, 5);
        three.key(1, 0, 0, 0);
        for (int k = 1; k < 6; k++) {
            three.key(1, 40, 0, 0);
        }
        due("29: five alike, the least of them", three.play(1), 2);
        IceKeys last = Check.twoIrons();
        last.ends(1);
        due("29: one HALT yet", last.play(4), 2);
        last.halt();
        due("29: OVER", last.play(4), -3);
        due("29: BAD ahead of NONE", last.play(0), -1);
        due("29: BAD ahead of NONE", last.play(5), -1);
    }
}
