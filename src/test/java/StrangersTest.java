/** Promises 30 to 36: strangers, lots. */
public final class StrangersTest {
    public static void main(String[] args) {
        report();
        forget();
        lone();
        loneBySuns();
        liar();
        seed();
        lot();
        times();
        Check.end("StrangersTest");
    }

    private static void due(String call, long got, long want) {
        Check.due(call, got, want);
    }

    private static void report() {
        IceKeys x = new IceKeys();
        int[][] bad = {{-1, 0, 0, 1}, {16, 0, 0, 1}, {0, -1, 0, 1}, {0, 2, 0, 1}, {0, 0, -1, 1}, {0, 0, 0, 100},
            {0, 0, 100, 100}, {0, 1, 0, 10}, {0, 1, -1, 4}, {0, 1, 10, 10}, {0, 0, 5, 4}, {0, 1, 5, 4}, {0, 0, 0, -1}};
        for (int[] b : bad) {
            due("30: bad report " + b[0] + " " + b[1] + " " + b[2] + " " + b[3], x.report(b[0], b[1], b[2], b[3]), -1);
        }
        due("30: none came", x.many(3), 0);
        due("30: report", x.report(0, 0, 0, 99), 0);
        due("30: report", x.report(15, 1, 0, 9), 1);
        due("30: report", x.report(0, 0, 99, 99), 2);
        due("30: report", x.report(0, 1, 9, 9), 3);
        due("30: report", x.report(0, 0, 0, 0), 4);
        due("30: report", x.report(0, 1, 0, 0), 5);
        due("30: full", x.report(0, 1, 0, 0), -2);
        due("30: bad ahead of full", x.report(0, 1, 1, 0), -1);
        due("30: many", x.many(3), 6);
    }

    private static void forget() {
        IceKeys x = new IceKeys();
        due("31: none", x.forget(), 0);
        x.report(0, 0, 0, 0);
        x.report(0, 0, 1, 1);
        due("31: two", x.forget(), 2);
        due("31: none", x.many(3), 0);
        due("31: none", x.forget(), 0);
        due("31: numbered anew", x.report(0, 0, 5, 5), 0);
        due("31: what was is forgotten", x.forget(), 1);
        due("31: all fit", x.lone(0), 500);
    }

    private static void lone() {
        IceKeys x = new IceKeys();
        due("32: all", x.lone(0), 500);
        due("32: least kind", x.lone(1), 1);
        due("32: least straw", x.lone(2), 0);
        due("32: least teeth", x.lone(3), 9);
        due("32: below", x.lone(-1), -1);
        due("32: above", x.lone(4), -1);
        x.report(0, 0, 90, 99);
        due("32: 99 at first", x.lone(0), 50);
        due("32: teeth", x.lone(3), 99);
        x.report(1, 0, 99, 99);
        due("32: that don't melt", x.lone(0), 24);
        x.report(0, 1, 6, 9);
        due("32: not iron, of shape 8", x.lone(0), 14);
        due("32: salt", x.lone(1), 4);
        due("32: straw", x.lone(2), 3);
        due("32: teeth", x.lone(3), 99);
        x.report(15, 0, 0, 98);
        // in straw 3 to 9 a spare melts more than nothing from halt 3, 6 or 9 on
        due("32: spares", x.lone(0), 7);
        due("32: spare", x.lone(1), 5);
        due("32: straw", x.lone(2), 3);
        x.report(15, 0, 69, 69);
        // straw 3 to 5: 1 in halts 3 to 5, 2, 3, and 4 in halts 12 to 14: 30 in all
        due("32: those in straw 3 to 5", x.lone(0), 3);
        x.report(15, 1, 6, 9);
        due("32: none", x.lone(0), 0);
        for (int what = 1; what <= 3; what++) {
            due("32: none", x.lone(what), -3);
        }
        due("32: what ahead of none", x.lone(4), -1);
        IceKeys shape = new IceKeys();
        shape.report(0, 1, 9, 9);
        // sleeves by 89 in any straw, thirds by 99 in straw 4 to 7 and by 89 in straw 0 to 3; none of salt
        due("32: of shape 9", shape.lone(0), 18);
        due("32: of shape 9", shape.lone(1), 2);
        due("32: of shape 9", shape.lone(3), 89);
    }

    private static void loneBySuns() {
        IceKeys x = new IceKeys();
        x.report(0, 0, 99, 99);
        x.report(1, 0, 99, 99);
        x.sun(0, 0);
        due("32: by sun 0 salt doesn't melt, nor a third in straw 9", x.lone(0), 31);
        x.sun(0, 15);
        due("32: by sun 15 salt melts 9", x.lone(0), 10);
        // neither KEYS, nor HALT, nor END count
        x.sun(0, 5);
        x.key(1, 50, 0, 0);
        x.key(1, 50, 0, 1);
        x.halt();
        x.ends(1);
        due("32: as ever", x.lone(0), 24);
        x.forget();
        x.report(15, 0, 0, 0);
        x.report(14, 0, 1, 99);
        // sleeves by 99 in straw 6 to 8 (7 a halt), by 89 in straw 9; thirds by 59 in straw 0 to 2, by 29 in straw
        // 6 to 8; spares by 29 in straw 3 to 5, by 9 in straw 9
        due("32: behind more halts than there are", x.lone(0), 14);
        due("32: kind", x.lone(1), 2);
        due("32: straw", x.lone(2), 6);
        due("32: teeth", x.lone(3), 99);
    }

    private static void liar() {
        IceKeys x = new IceKeys();
        due("33: all fit", x.liar(), -3);
        x.report(0, 0, 99, 99);
        x.report(1, 0, 99, 99);
        x.report(0, 1, 5, 5);
        due("33: some fit", x.liar(), -3);
        x.report(15, 1, 4, 4);
        due("33: the latest", x.liar(), 3);
        due("33: it stays", x.many(3), 4);
        x.report(0, 0, 0, 0);
        due("33: two of them", x.liar(), -3);
        x.forget();
        x.report(0, 0, 9, 9);
        x.report(0, 0, 19, 19);
        due("33: of two the least", x.liar(), 0);
        x.report(0, 0, 19, 19);
        due("33: the odd one", x.liar(), 0);
        x.forget();
        x.report(0, 0, 19, 19);
        x.report(0, 0, 9, 9);
        x.report(0, 0, 19, 19);
        due("33: the odd one", x.liar(), 1);
        x.forget();
        x.report(0, 0, 50, 50);
        due("33: none has 50 at first", x.lone(0), 0);
        due("33: but for it all", x.liar(), 0);
        x.report(0, 0, 60, 60);
        due("33: two behind as many halts", x.liar(), -3);
        x.forget();
        x.report(3, 0, 99, 99);
        x.report(3, 1, 0, 0);
        x.report(3, 1, 1, 1);
        due("33: of three no one", x.liar(), -3);
    }

    private static void seed() {
        IceKeys x = new IceKeys();
        due("34: 1 at first", x.seed(-7), 1);
        due("34: what it was", x.seed(Integer.MIN_VALUE), -7);
        due("34: what it was", x.seed(0), Integer.MIN_VALUE);
        x.lot();
        due("34: it went on", x.seed(0), 12345);
    }

    /** ACTS by LOT from z = 1 with two KEYS are 2, 0, 0, 0, 0, 1. */
    private static void lot() {
        IceKeys x = Check.twoIrons();
        due("35: the other one", x.lot(), 9);
        due("35: turned", x.state(4), 2);
        due("35: none", x.lot(), 1);
        due("35: none", x.lot(), 1);
        due("35: none", x.lot(), 1);
        due("35: none", x.lot(), 1);
        due("35: the first one", x.lot(), 8);
        due("35: score", x.state(2), 21);
        due("35: halt", x.state(0), 6);
        due("35: z", x.seed(3), -1778682749);
        x.ends(6);
        due("35: over", x.lot(), -4);
        due("35: z stays", x.seed(1), 3);
        due("35: halt stays", x.state(0), 6);
        IceKeys none = new IceKeys();
        due("35: no keys", none.lot(), 0);
        due("35: z goes on", none.seed(0), 1103527590);
        due("35: halt", none.state(0), 1);
    }

    /** ACTS by LOT from z = 1 with one KEY are 0, 0, 1, 1, 1, 1, 0, 1, 0, 0, 1, 1. */
    private static void times() {
        IceKeys x = new IceKeys();
        x.gate(0, 0, 5);
        x.key(1, 20, 0, 0);
        x.ends(1);
        int[] want = {0, 0, 0, 1, 2, 3, 4, 4, 5, 5, 5, 6, 7};
        for (int n = 1; n < want.length; n++) {
            due("36: times(" + n + ", 7)", x.times(n, 7), want[n]);
            due("36: times(" + n + ", 1)", x.times(n, 1), want[n]);
        }
        due("36: never", x.times(40, 8), 0);
        due("36: always", x.times(40, 0), 40);
        x.ends(2);
        // by twos: none; turned, then 1; likewise; none, then turned; none; turned, then 1
        due("36: 8 or more of two halts", x.times(6, 8), 3);
        due("36: 7 or more of two halts", x.times(6, 7), 4);
        due("36: z is as it was", x.seed(1), 1);
        due("36: halt is as it was", x.state(0), 0);
        due("36: none is turned", x.state(4), 0);
        due("36: score is as it was", x.state(2), 0);
        int[][] bad = {{0, 0}, {-1, 0}, {41, 0}, {1, -1}, {1, 1000}};
        for (int[] b : bad) {
            due("36: bad times", x.times(b[0], b[1]), -1);
        }
        due("36: edge", x.times(1, 999), 0);
        x.halt();
        x.halt();
        due("36: over", x.times(3, 0), 3);
        due("36: over", x.times(3, 1), 0);
    }
}
