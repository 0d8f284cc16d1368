/** Promises 23 to 29: plans, a game. */
public final class PlansTest {
    public static void main(String[] args) {
        best();
        eachAlone();
        inTheFourth();
        bestByChill();
        fewerIfOver();
        order();
        orderWaits();
        bars();
        game();
        gameOfChill();
        wrongNumbers();
        nothingIsChanged();
        Check.end("PlansTest");
    }

    private static void due(String call, long got, long want) {
        Check.due(call, got, want);
    }

    private static void best() {
        IceKeys x = Check.twoIrons();
        int[] worth = {0, 9, 17, 19, 21};
        int[] ways = {1, 1, 2, 6, 18};
        int[][] first = {{}, {2}, {1, 2}, {1, 2, 0}, {1, 2, 0, 0}};
        for (int n = 0; n <= 4; n++) {
            due("23: best(" + n + ")", x.best(n), worth[n]);
            due("25: ways(" + n + ")", x.ways(n), ways[n]);
            for (int i = 0; i < 4; i++) {
                due("24: ith(" + n + ", " + i + ")", x.ith(n, i), i < n ? first[n][i] : -3);
            }
        }
        IceKeys none = new IceKeys();
        due("23: no keys", none.best(4), 0);
        due("24: no keys", none.ith(4, 3), 0);
        due("25: no keys", none.ways(4), 1);
        none.key(1, 0, 0, 0);
        due("25: a key that can't", none.ways(4), 16);
        for (int k = 1; k < 6; k++) {
            none.key(1, 0, 0, 0);
        }
        due("25: six keys that can't", none.ways(4), 2401);
        due("24: none is told", none.ith(4, 0), 0);
    }

    /** Each call by itself on a new object, so that no other one has looked ahead of it. */
    private static void eachAlone() {
        due("24: ith alone", Check.twoIrons().ith(2, 1), 2);
        due("25: ways alone", Check.twoIrons().ways(3), 6);
        due("29: play alone", Check.twoIrons().play(1), 2);
        due("37: prove alone", Check.twoIrons().prove(3), 3);
    }

    /** A salt that FITS only at HALT 3, the fourth of a PLAN of 4. */
    private static void inTheFourth() {
        IceKeys x = new IceKeys();
        x.gate(0, 0, 1);
        x.key(4, 26, 0, 0);
        due("23: in three", x.best(3), 0);
        due("23: in the fourth", x.best(4), 7);
        due("24: in the fourth", x.ith(4, 3), 1);
        due("26: in three", x.order(3, 1), -3);
        due("26: in the fourth", x.order(4, 1), 1);
        due("27: in three", x.bars(3, 1), 0);
        due("27: in the fourth", x.bars(4, 1), -3);
        due("28: the other one has the fourth", x.game(4), 0);
        x.halt();
        due("28: the first one has the third", x.game(3), 7);
        due("29: none at first", x.play(3), 0);
    }

    /** A salt with TEETH 89 that is shaped 7, for WARD 8: it must be chilled first, which only SHADE above 1 does. */
    private static void bestByChill() {
        IceKeys x = new IceKeys();
        x.gate(0, 0, 8);
        x.key(4, 89, 0, 0);
        Check.tell(x, "salt if teeth < 96 chill;");
        x.sun(0, 2);
        x.sun(1, 2);
        due("23: chill", x.best(1), 1);
        due("23: chill and turn", x.best(2), 11);
        due("24: chill", x.ith(2, 0), 1);
        due("24: and turn", x.ith(2, 1), 1);
        due("25: one way", x.ways(2), 1);
        x.sun(0, 1);
        due("23: no shade at first", x.best(2), 1);
        due("24: nothing at first", x.ith(2, 0), 0);
        due("24: then chill", x.ith(2, 1), 1);
        due("25: two ways", x.ways(2), 2);
    }

    private static void fewerIfOver() {
        IceKeys x = Check.twoIrons();
        x.ends(2);
        due("23: fewer", x.best(4), 17);
        due("24: fewer", x.ith(4, 1), 2);
        due("24: not so many", x.ith(4, 2), -3);
        due("25: fewer", x.ways(4), 2);
        due("26: fewer", x.order(4, 3), 2);
        due("27: fewer", x.bars(4, 3), -3);
        due("28: fewer", x.game(4), 10);
        x.halt();
        due("24: one", x.ith(2, 0), 2);
        due("24: not so many", x.ith(2, 1), -3);
        x.halt();
        due("23: over", x.best(4), 0);
        due("24: over", x.ith(4, 0), -3);
        due("25: over", x.ways(4), 1);
        due("26: over, all turned", x.order(4, 3), 0);
        due("27: over, all turned", x.bars(4, 3), -3);
        due("28: over", x.game(4), 0);
        due("29: over", x.play(4), -3);
        due("29: bad ahead of none", x.play(5), -1);
        x.change(1, 4, 0);
        due("26: over", x.order(4, 3), -3);
        due("27: over", x.bars(4, 3), 1);
    }

    private static void order() {
        IceKeys x = Check.twoIrons();
        x.key(4, 50, 0, 1);
        due("26: no keys", x.order(0, 0), 0);
        due("26: no keys", x.order(4, 0), 0);
        due("26: one", x.order(1, 1), 1);
        due("26: one", x.order(1, 2), 1);
        due("26: one of four", x.order(4, 2), 1);
        due("26: two in one", x.order(1, 3), -3);
        due("26: two", x.order(2, 3), 2);
        due("26: two of four", x.order(4, 3), 2);
        due("26: none in none", x.order(0, 1), -3);
        due("26: it can't", x.order(4, 4), -3);
        due("26: one of them can't", x.order(4, 5), -3);
        x.change(0, 4, 1);
        due("26: it is now", x.order(0, 1), 0);
        due("26: one yet", x.order(4, 3), 1);
        x.change(2, 4, 1);
        due("26: it is now, though it can't", x.order(1, 6), 1);
    }

    private static void orderWaits() {
        IceKeys x = new IceKeys();
        x.gate(0, 0, 1);
        x.key(4, 25, 0, 0);
        due("26: not yet", x.order(2, 1), -3);
        due("26: at halt 2 it fits", x.order(3, 1), 1);
        due("27: not yet", x.bars(2, 1), 0);
        due("27: at halt 2 it fits", x.bars(3, 1), -3);
        due("23: best waits", x.best(3), 7);
        due("24: nothing", x.ith(3, 0), 0);
        due("24: nothing", x.ith(3, 1), 0);
        due("24: turned", x.ith(3, 2), 1);
        due("25: or it is told ahead of it", x.ways(3), 4);
        // to be told ahead of it would chill it
        for (int h = 0; h < 3; h++) {
            x.sun(h, 6);
        }
        Check.tell(x, "salt if halt < 2 chill;");
        due("26: it must wait", x.order(3, 1), 1);
        due("27: it must wait", x.bars(3, 1), -3);
        due("28: the other one chills", x.game(3), 1);
        // chills are ACTS that aren't 0, too
        IceKeys chilled = new IceKeys();
        chilled.gate(0, 0, 8);
        chilled.key(4, 82, 0, 0);
        for (int h = 0; h < 4; h++) {
            chilled.sun(h, 2);
        }
        Check.tell(chilled, "salt if teeth < 96 chill;");
        due("26: two chills, then turned", chilled.order(3, 1), 3);
        due("26: two chills, then turned", chilled.order(4, 1), 3);
        due("26: too few", chilled.order(2, 1), -3);
        due("27: too few", chilled.bars(2, 1), 0);
        due("27: enough", chilled.bars(3, 1), -3);
    }

    private static void bars() {
        IceKeys x = Check.twoIrons();
        x.key(4, 50, 0, 1);
        x.key(4, 50, 0, 1);
        due("27: each by itself", x.bars(1, 3), -3);
        due("27: none", x.bars(0, 0), -3);
        due("27: no halts", x.bars(0, 3), 0);
        due("27: no halts", x.bars(0, 2), 1);
        due("27: the least", x.bars(4, 15), 2);
        due("27: the other", x.bars(4, 11), 3);
        x.change(2, 4, 1);
        due("27: turned now", x.bars(4, 7), -3);
        due("27: turned now", x.bars(0, 4), -3);
    }

    private static void game() {
        IceKeys x = Check.twoIrons();
        int[] value = {0, 9, 10, 18, 20};
        int[] play = {0, 2, 2, 1, 1};
        for (int n = 1; n <= 4; n++) {
            due("28: game(" + n + ")", x.game(n), value[n]);
            due("29: play(" + n + ")", x.play(n), play[n]);
        }
        IceKeys none = new IceKeys();
        due("28: no keys", none.game(4), 0);
        due("29: no keys", none.play(4), 0);
        none.key(1, 0, 0, 0);
        due("29: the least act", none.play(4), 0);
    }

    /** Who wants little tells none; but when a HALT costs TEETH that are chilled, the first chills. */
    private static void gameOfChill() {
        IceKeys x = new IceKeys();
        x.key(4, 50, 0, 0);
        Check.tell(x, "key chill;");
        x.sun(0, 2);
        x.sun(1, 2);
        x.sun(2, 2);
        x.sun(3, 1);
        due("28: chill", x.game(1), 1);
        due("28: the other one doesn't", x.game(2), 1);
        due("28: chill, none, chill", x.game(3), 2);
        due("28: no shade", x.game(4), 2);
        due("29: chill", x.play(4), 1);
        x.halt();
        x.halt();
        x.halt();
        due("28: no shade", x.game(1), 0);
        due("29: none", x.play(1), 0);
    }

    private static void wrongNumbers() {
        IceKeys x = Check.twoIrons();
        for (int n : new int[] {-1, 5, Integer.MAX_VALUE, Integer.MIN_VALUE}) {
            due("23: best(" + n + ")", x.best(n), -1);
            due("24: ith(" + n + ", 0)", x.ith(n, 0), -1);
            due("24: ith(2, " + n + ")", x.ith(2, n), -1);
            due("25: ways(" + n + ")", x.ways(n), -1);
            due("26: order(" + n + ", 0)", x.order(n, 0), -1);
            due("27: bars(" + n + ", 0)", x.bars(n, 0), -1);
            due("28: game(" + n + ")", x.game(n), -1);
            due("29: play(" + n + ")", x.play(n), -1);
        }
        due("24: i 4", x.ith(4, 4), -1);
        due("28: game(0)", x.game(0), -1);
        due("29: play(0)", x.play(0), -1);
        for (int keys : new int[] {-1, 4, 7, 64, Integer.MIN_VALUE}) {
            due("26: order(2, " + keys + ")", x.order(2, keys), -1);
            due("27: bars(2, " + keys + ")", x.bars(2, keys), -1);
        }
        due("26: no key at all", new IceKeys().order(1, 1), -1);
    }

    private static void nothingIsChanged() {
        IceKeys x = Check.five();
        x.halt();
        x.best(4);
        x.ith(4, 2);
        x.ways(4);
        x.order(4, 31);
        x.bars(4, 31);
        x.game(4);
        x.play(4);
        due("23 to 29: halt", x.state(0), 1);
        due("23 to 29: score", x.state(2), 7);
        due("23 to 29: turned", x.state(4), 1);
        due("23 to 29: teeth", x.state(6), 288);
        due("23 to 29: z", x.seed(1), 1);
    }
}
