/** Promises 41 to 50: the host. */
public final class HostTest {
    public static void main(String[] args) {
        sheet();
        write();
        item();
        goAll();
        wouldBe();
        shelf();
        taken();
        act();
        actBreaks();
        trace();
        many();
        Check.end("HostTest");
    }

    private static void due(String call, long got, long want) {
        Check.due(call, got, want);
    }

    private static void sheet() {
        IceKeys x = new IceKeys();
        due("41: sheet below", x.sheet(-1, 0, 1), -1);
        due("41: sheet above", x.sheet(4, 0, 1), -1);
        due("41: sort below", x.sheet(0, -2, 1), -1);
        due("41: sort above", x.sheet(0, 5, 1), -1);
        due("41: n above", x.sheet(0, 0, 41), -1);
        due("41: n below", x.sheet(0, 0, -1), -14);
        due("41: n below", x.sheet(0, 4, Integer.MIN_VALUE), -14);
        due("41: bad ahead of -14", x.sheet(0, 5, -1), -1);
        due("41: still missing", x.item(0, 0, 0), -11);
        due("41: missing, n counts nothing", x.sheet(0, -1, 41), 1);
        due("41: missing, n counts nothing", x.sheet(0, -1, -1), 1);
        due("41: still missing", x.item(0, 0, 0), -11);
        for (int sort = 0; sort <= 4; sort++) {
            due("41: sheet", x.sheet(3, sort, 40), 1);
            due("41: all 0", x.item(3, sort, 39), 0);
            due("41: as long", x.item(3, sort, 40), -12);
            x.write(3, 39, 1);
        }
        due("41: empty", x.sheet(3, 2, 0), 1);
        due("41: empty", x.item(3, 2, 0), -12);
        x.sheet(3, 2, 3);
        x.write(3, 0, 8);
        x.write(3, 2, 9);
        due("41: anew", x.sheet(3, 2, 3), 1);
        due("41: all 0", x.item(3, 2, 0), 0);
        due("41: all 0", x.item(3, 2, 2), 0);
        x.write(3, 2, 9);
        due("41: a refusal leaves it", x.sheet(3, 2, -5), -14);
        due("41: it is as it was", x.item(3, 2, 2), 9);
        due("41: missing", x.sheet(3, -1, 0), 1);
        due("41: missing", x.item(3, 2, 2), -11);
    }

    private static void write() {
        IceKeys x = new IceKeys();
        due("42: sheet below", x.write(-1, 0, 0), -1);
        due("42: sheet above", x.write(4, 0, 0), -1);
        due("42: missing", x.write(0, 0, 0), -11);
        due("42: missing ahead of outside", x.write(0, 99, 0), -11);
        int[] values = {300, -129, 40000, -32769, Integer.MIN_VALUE, 0, 2};
        int[][] want = {
            {44, 127, 64, -1, 0, 0, 2},
            {300, -129, -25536, 32767, 0, 0, 2},
            {300, -129, 40000, -32769, Integer.MIN_VALUE, 0, 2},
            {300, -129, 40000, -32769, Integer.MIN_VALUE, 0, 2},
            {1, 1, 1, 1, 1, 0, 1}};
        for (int sort = 0; sort <= 4; sort++) {
            x.sheet(1, sort, 2);
            for (int i = 0; i < values.length; i++) {
                due("42: write", x.write(1, 1, values[i]), 1);
                due("43: " + values[i] + " as sort " + sort, x.item(1, sort, 1), want[sort][i]);
                due("42: the other one stays", x.item(1, sort, 0), 0);
            }
            due("42: outside", x.write(1, 2, 0), -12);
            due("42: outside", x.write(1, -1, 0), -12);
            due("42: outside", x.write(1, Integer.MAX_VALUE, 0), -12);
        }
    }

    private static void item() {
        IceKeys x = new IceKeys();
        due("43: sheet below", x.item(-1, 0, 0), -1);
        due("43: sheet above", x.item(4, 0, 0), -1);
        due("43: sort below", x.item(0, -1, 0), -1);
        due("43: sort above", x.item(0, 5, 0), -1);
        due("43: missing", x.item(0, 0, 0), -11);
        due("43: sort ahead of missing", x.item(0, 5, 0), -1);
        for (int sort = 0; sort <= 4; sort++) {
            x.sheet(2, sort, 1);
            x.write(2, 0, -1);
            for (int as = 0; as <= 4; as++) {
                due("43: sort " + sort + " as " + as, x.item(2, as, 0), as != sort ? -13 : sort == 4 ? 1 : -1);
                due("43: outside", x.item(2, as, 1), as != sort ? -13 : -12);
                due("43: outside", x.item(2, as, -1), as != sort ? -13 : -12);
            }
        }
    }

    /** Two irons that FIT, and a SHEET with ACTS. */
    private static IceKeys withSheet(int... acts) {
        IceKeys x = Check.twoIrons();
        x.sheet(0, 0, acts.length);
        for (int i = 0; i < acts.length; i++) {
            x.write(0, i, acts[i]);
        }
        return x;
    }

    private static void goAll() {
        IceKeys x = withSheet(2, 0, 1);
        due("44: sheet below", x.goAll(-1, 0, 0), -1);
        due("44: sheet above", x.goAll(4, 0, 0), -1);
        due("44: n below", x.goAll(0, 0, -1), -1);
        due("44: n above", x.goAll(0, 0, 21), -1);
        due("44: n ahead of missing", x.goAll(1, 0, 21), -1);
        due("44: missing", x.goAll(1, 0, 0), -11);
        x.sheet(1, 4, 3);
        due("44: another sort", x.goAll(1, 0, 0), -13);
        due("44: none", x.goAll(0, 0, 0), 0);
        due("44: none, from outside", x.goAll(0, 99, 0), 0);
        due("44: none, from outside", x.goAll(0, -1, 0), 0);
        due("44: nothing went by", x.state(0), 0);
        due("44: all", x.goAll(0, 0, 3), 18);
        due("44: halt", x.state(0), 3);
        due("44: score", x.state(2), 18);
        due("44: turned", x.state(4), 3);
        x = withSheet(3, 2, -1, 99, 0, 127);
        due("44: what is no act is left out", x.goAll(0, 0, 6), 10);
        due("44: halt", x.state(0), 2);
        x = withSheet(2, 0, 1);
        due("44: outside", x.goAll(0, 1, 3), -12);
        due("44: what stood ahead was done", x.state(0), 2);
        due("44: score, too", x.state(2), 7);
        due("44: turned, too", x.state(4), 1);
        due("44: outside at once", x.goAll(0, 3, 1), -12);
        due("44: outside at once", x.goAll(0, -1, 2), -12);
        due("44: outside at once", x.goAll(0, Integer.MAX_VALUE, 2), -12);
        due("44: outside at once", x.goAll(0, Integer.MIN_VALUE, 2), -12);
        due("44: halt", x.state(0), 2);
        x = withSheet(2, 1, 0);
        x.ends(1);
        due("44: when it is over they are left out", x.goAll(0, 0, 3), 9);
        due("44: halt", x.state(0), 1);
        due("44: outside, though it is over", x.goAll(0, 0, 4), -12);
        due("44: over", x.goAll(0, 0, 3), 0);
        x = new IceKeys();
        x.sheet(0, 0, 40);
        due("44: twenty", x.goAll(0, 20, 20), 0);
        due("44: till it is over", x.state(0), 12);
        due("44: outside", x.goAll(0, 21, 20), -12);
    }

    private static void wouldBe() {
        IceKeys x = withSheet(2, 0, 1, 7);
        due("45: sheet below", x.wouldBe(-1, 0, 0), -1);
        due("45: sheet above", x.wouldBe(4, 0, 0), -1);
        due("45: n below", x.wouldBe(0, 0, -1), -1);
        due("45: n above", x.wouldBe(0, 0, 21), -1);
        due("45: missing", x.wouldBe(1, 0, 0), -11);
        x.sheet(1, 1, 3);
        due("45: another sort", x.wouldBe(1, 0, 0), -13);
        due("45: none", x.wouldBe(0, 0, 0), 0);
        due("45: none, from outside", x.wouldBe(0, 99, 0), 0);
        due("45: one", x.wouldBe(0, 0, 1), 9);
        due("45: two", x.wouldBe(0, 0, 2), 10);
        due("45: three", x.wouldBe(0, 0, 3), 18);
        due("45: from the third on", x.wouldBe(0, 2, 1), 7);
        due("45: no act", x.wouldBe(0, 0, 4), -4);
        due("45: no act ahead of outside", x.wouldBe(0, 0, 5), -4);
        due("45: outside", x.wouldBe(0, 4, 1), -12);
        due("45: outside", x.wouldBe(0, -1, 3), -12);
        due("45: outside", x.wouldBe(0, Integer.MAX_VALUE, 3), -12);
        x.write(0, 3, -1);
        due("45: no act", x.wouldBe(0, 3, 1), -4);
        x.write(0, 3, 2);
        due("45: outside behind acts", x.wouldBe(0, 0, 5), -12);
        x.ends(2);
        due("45: just as many", x.wouldBe(0, 0, 2), 10);
        due("45: over", x.wouldBe(0, 0, 3), -4);
        due("45: outside ahead of over", x.wouldBe(0, 2, 3), -12);
        due("45: halt", x.state(0), 0);
        due("45: score", x.state(2), 0);
        due("45: turned", x.state(4), 0);
        due("45: teeth", x.state(6), 80);
    }

    private static void shelf() {
        IceKeys x = new IceKeys();
        due("46: shelf below", x.shelf(-1, 2, 0), -1);
        due("46: shelf above", x.shelf(4, 2, 0), -1);
        due("46: what below", x.shelf(0, -1, 0), -1);
        due("46: what above", x.shelf(0, 3, 0), -1);
        due("46: no such key", x.shelf(0, 0, 0), -1);
        due("46: no such sheet", x.shelf(0, 1, 4), -1);
        due("46: no such sheet", x.shelf(0, 1, -1), -1);
        due("46: nothing, n counts nothing", x.shelf(0, 2, -99), 1);
        x.key(1, 20, 0, 0);
        due("46: key", x.shelf(0, 0, 0), 1);
        due("46: no such key", x.shelf(0, 0, 1), -1);
        due("46: no such key", x.shelf(0, 0, -1), -1);
        due("46: a refusal leaves it", x.taken(0, 1), 0);
        due("46: a missing sheet is nothing", x.shelf(0, 1, 0), 1);
        due("47: nothing", x.taken(0, 10), -11);
        x.sheet(2, 3, 7);
        due("46: a row", x.shelf(3, 1, 2), 1);
        due("47: a row", x.taken(3, 13), 7);
        // the SHELF holds the row itself, not what the SHEET becomes
        x.sheet(2, 3, 9);
        due("47: the same row", x.taken(3, 13), 7);
        x.sheet(2, -1, 0);
        due("47: the same row", x.taken(3, 13), 7);
        due("46: nothing", x.shelf(3, 2, 0), 1);
        due("47: nothing", x.taken(3, 13), -11);
    }

    private static void taken() {
        IceKeys x = new IceKeys();
        int[][] badAs = {{-1, 0}, {4, 0}, {0, -1}, {0, 6}, {0, 9}, {0, 15}};
        for (int[] b : badAs) {
            due("47: bad taken " + b[0] + " " + b[1], x.taken(b[0], b[1]), -1);
        }
        due("47: nothing", x.taken(0, 0), -11);
        due("47: nothing", x.taken(0, 14), -11);
        boolean[][] isOf = {
            {true, true, false, false, false, false},
            {true, false, true, false, false, false},
            {true, false, true, true, false, false},
            {true, false, false, false, true, false},
            {true, false, false, false, true, true}};
        for (int k = 0; k < 5; k++) {
            x.key(k + 1, 50, 0, 0);
            x.shelf(1, 0, k);
            for (int as = 0; as <= 5; as++) {
                due("47: kind " + (k + 1) + " as " + as, x.taken(1, as), isOf[k][as] ? k : -13);
            }
            for (int as = 10; as <= 14; as++) {
                due("47: a key as a row", x.taken(1, as), -13);
            }
        }
        x.remake(4, 1);
        due("47: of the kind that it is now", x.taken(1, 1), 4);
        due("47: of the kind that it is now", x.taken(1, 5), -13);
        for (int sort = 0; sort <= 4; sort++) {
            x.sheet(0, sort, sort);
            x.shelf(2, 1, 0);
            for (int as = 10; as <= 14; as++) {
                due("47: sort " + sort + " as " + as, x.taken(2, as), as - 10 == sort ? sort : -13);
            }
            due("47: a row as a key", x.taken(2, 0), -13);
        }
    }

    /** An act() of KEY number n of a KIND and GATE: its answer and THE TRACE. */
    private static void act(int kind, int n, int gate, int act, int x, int want, int... trace) {
        IceKeys keys = new IceKeys();
        for (int k = 0; k <= n; k++) {
            keys.key(k == n ? kind : 1, 50, 0, k == n ? gate : 5);
        }
        keys.shelf(0, 0, n);
        String name = "48: kind " + kind + ", n " + n + ", a " + gate + ": act " + act + " by " + x;
        due(name, keys.act(0, act, x), want);
        due(name + ": bodies", keys.many(6), trace.length);
        for (int i = 0; i < trace.length; i++) {
            due(name + ": body " + i, keys.trace(i), trace[i]);
        }
        due(name + ": no more", keys.trace(trace.length), -3);
    }

    private static void act() {
        act(1, 0, 0, 0, 7, 34, 20, 10);
        act(1, 0, 0, 1, 7, 34, 11, 20, 10);
        act(1, 0, 0, 2, 7, 1, 12);
        act(1, 0, 0, 3, 7, 35, 13, 11, 20, 10, 12);
        act(2, 2, 5, 0, -3, -22, 10);
        act(2, 2, 5, 1, -3, -141, 30, 11, 10);
        act(2, 2, 5, 2, -3, -3, 12);
        act(2, 2, 5, 2, -8, -2, 12);
        act(2, 2, 5, 3, -3, -144, 13, 30, 11, 10, 12);
        act(3, 1, 2, 0, 5, -39, 50, 10);
        act(3, 1, 2, 1, 5, -147, 30, 11, 50, 10);
        act(3, 1, 2, 2, 5, 1, 12);
        act(3, 1, 2, 3, 5, -146 ^ -219, 51, 13, 30, 11, 50, 10, 12, 30, 11, 50, 10);
        act(4, 4, 3, 0, 2, 20, 10);
        act(4, 4, 3, 1, 2, 5, 11, 10);
        act(4, 4, 3, 2, -7, -10, 40, 12);
        act(4, 4, 3, 3, -7, -77, 13, 11, 10, 40, 12);
        act(5, 5, 1, 0, 1, 13, 10);
        act(5, 5, 1, 1, 1, -8, 60, 11, 10);
        act(5, 5, 1, 2, 1, 36, 61, 40, 12, 10);
        act(5, 5, 1, 2, Integer.MIN_VALUE, 36, 61, 40, 12, 10);
        act(5, 5, 1, 3, 1, 28, 13, 60, 11, 10, 61, 40, 12, 10);
        // ints wrap
        act(1, 0, 0, 0, Integer.MAX_VALUE, -8 ^ 26, 20, 10);
        act(3, 0, 0, 0, Integer.MIN_VALUE, -80, 50, 10);
        act(2, 0, 0, 1, 0x20000001, 24, 30, 11, 10);
    }

    private static void actBreaks() {
        act(4, 3, 0, 2, 5, -15, 40, 12);
        act(4, 3, 0, 3, 5, -15, 13, 11, 10, 40, 12);
        act(4, 3, 0, 0, 5, 43, 10);
        act(5, 5, 2, 2, 5, -15, 61, 40, 12);
        act(3, 3, 0, 3, 5, -15, 51, 13, 30, 11, 50, 10, 12);
        IceKeys x = new IceKeys();
        x.key(1, 50, 0, 4);
        x.shelf(1, 0, 0);
        x.sheet(0, 0, 3);
        x.shelf(2, 1, 0);
        int[][] wrong = {{-1, 0}, {4, 0}, {1, -1}, {1, 4}, {0, 0}, {2, 0}};
        for (int[] w : wrong) {
            x.act(1, 3, 5);
            due("48: a trace", x.many(6), 5);
            due("48: act(" + w[0] + ", " + w[1] + ", 5)", x.act(w[0], w[1], 5), 0);
            due("48: no trace", x.many(6), 0);
            due("49: no trace", x.trace(0), -3);
        }
        for (int k = 1; k <= 3; k++) {
            x.key(1, 50, 0, 0);
        }
        x.shelf(3, 0, 3);
        due("48: parted by 0", x.act(3, 3, 13), -15);
        due("48: behind a break it goes on", x.act(1, 2, 13), 6);
        due("49: its trace, too", x.trace(0), 12);
        // of the KIND and GATE that it is now
        x.remake(0, 4);
        due("48: a salt now", x.act(1, 2, 13), -3);
        x.change(0, 3, 0);
        due("48: of gate 0 now", x.act(1, 2, 13), -8);
    }

    private static void trace() {
        IceKeys x = new IceKeys();
        due("49: none", x.trace(0), -3);
        x.key(1, 50, 0, 0);
        x.shelf(0, 0, 0);
        x.act(0, 1, 0);
        due("49: first", x.trace(0), 11);
        due("49: last", x.trace(2), 10);
        due("49: above", x.trace(3), -3);
        due("49: below", x.trace(-1), -3);
        due("49: far", x.trace(Integer.MAX_VALUE), -3);
        x.act(0, 2, 0);
        due("49: the latest", x.trace(0), 12);
        due("49: the latest", x.trace(1), -3);
        x.taken(0, 0);
        due("49: it stays", x.trace(0), 12);
    }

    private static void many() {
        IceKeys x = Check.five();
        Check.tell(x, "iron turn; salt carry;");
        x.change(1, 4, 1);
        x.change(2, 4, 1);
        x.change(4, 4, 1);
        x.report(0, 0, 0, 9);
        x.prove(4);
        x.feed(0, 7);
        x.shelf(0, 0, 4);
        x.act(0, 3, 0);
        int[] want = {5, 2, 3, 1, 4, 7, 11};
        for (int what = 0; what < want.length; what++) {
            due("50: many(" + what + ")", x.many(what), want[what]);
        }
        due("50: below", x.many(-1), -1);
        due("50: above", x.many(7), -1);
    }
}
