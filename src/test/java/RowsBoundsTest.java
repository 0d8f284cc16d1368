/** The bounds that the document's terms name about ROWS, and promises 37 to 40: a test for each sentence. */
public final class RowsBoundsTest {
    public static void main(String[] args) {
        rowsTerm();
        readerTerm();
        prove();
        row();
        alterRow();
        judge();
        Check.end("RowsBoundsTest");
    }

    private static void due(String call, long got, long want) {
        Check.due(call, got, want);
    }

    private static IceKeys proven(int n) {
        IceKeys x = Check.twoIrons();
        x.prove(n);
        return x;
    }

    // DOC T3: ROWS of the FIRST of the BEST PLANS: for each HALT (ACT, what it is WORTH, KEYS that are TURNED behind it, as a set).
    private static void rowsTerm() {
        int[][] want = {{1, 7, 1}, {2, 10, 3}, {0, 2, 3}, {0, 2, 3}};
        IceKeys x = proven(4);
        for (int k = 0; k < 4; k++) {
            for (int what = 0; what < 3; what++) {
                due("T3: ROW " + k + ", " + what, x.row(k, what), want[k][what]);
            }
        }
        // from how it is now, KEYS that are TURNED by then, too
        x.change(1, 4, 1);
        x.prove(1);
        due("T3: ACT", x.row(0, 0), 1);
        due("T3: 6, and 1 for each", x.row(0, 1), 8);
        due("T3: both", x.row(0, 2), 3);
        // the sixth KEY: ACT 6, bit 32
        IceKeys six = new IceKeys();
        for (int k = 0; k < 6; k++) {
            six.key(1, k == 5 ? 50 : 0, 0, 0);
        }
        six.gate(0, 0, 5);
        six.prove(1);
        due("T3: ACT 6", six.row(0, 0), 6);
        due("T3: KEY 5", six.row(0, 2), 32);
    }

    // DOC T3: THE READER takes ROWS as a PLAN, from how it is now: right is one whose ACT is one, if it isn't OVER, the others as they are then.
    private static void readerTerm() {
        IceKeys x = proven(2);
        due("T3: right", x.judge(), 0);
        for (int act : new int[] {Integer.MIN_VALUE, -1, 3, 4, Integer.MAX_VALUE}) {
            x.alterRow(1, 0, act);
            due("T3: " + act + " is no ACT", x.judge(), 2);
        }
        x.alterRow(1, 0, 2);
        due("T3: right", x.judge(), 0);
        x.ends(2);
        due("T3: just as many HALTS", x.judge(), 0);
        x.ends(1);
        due("T3: OVER ahead of ROW 1", x.judge(), 2);
        x.halt();
        due("T3: OVER ahead of ROW 0", x.judge(), 1);
        x.anew();
        x.ends(12);
        due("T3: right from HALT 0", x.judge(), 0);
        // a KEY that comes makes more ACTS, but the others must be as they are then
        x.alterRow(1, 0, 3);
        x.alterRow(1, 1, 1);
        x.alterRow(1, 2, 1);
        due("T3: no ACT 3 yet", x.judge(), 2);
        x.key(1, 0, 0, 1);
        due("T3: ACT 3 is one now", x.judge(), 0);
        x.alterRow(1, 1, 2);
        due("T3: WORTH isn't as it is then", x.judge(), 2);
        x.alterRow(1, 1, 1);
        x.alterRow(1, 2, 3);
        due("T3: TURNED aren't as they are then", x.judge(), 2);
    }

    // DOC 37: ROWS of the FIRST of the BEST PLANS of n (0 to 4): how many. BAD.
    private static void prove() {
        Check.edges("37: n", 0, 4, -1, n -> Check.twoIrons().prove(n));
        for (int n = 0; n <= 4; n++) {
            IceKeys x = Check.twoIrons();
            due("37: how many", x.prove(n), n);
            due("37: as many", x.many(4), n);
        }
        IceKeys x = Check.twoIrons();
        x.ends(3);
        due("37: fewer, if it is OVER", x.prove(4), 3);
        due("37: BAD", x.prove(5), -1);
        due("37: ROWS are as they were", x.many(4), 3);
        due("37: fewer ROWS now", x.prove(1), 1);
        due("37: in place of all", x.many(4), 1);
        x.ends(1);
        x.halt();
        due("37: OVER", x.prove(4), 0);
        due("37: none", x.many(4), 0);
        due("37: no KEYS", new IceKeys().prove(4), 4);
        // the fort is as it is now, not as it was at an earlier prove()
        IceKeys y = proven(4);
        y.halt();
        due("37: of none", y.prove(0), 0);
        due("37: HALT is as it is now", y.state(0), 1);
        due("37: TURNED are as they are now", y.state(4), 1);
    }

    // DOC 38: Of ROW k: what = 0 ACT, 1 WORTH, 2 those TURNED. -9: there is none such, another what.
    private static void row() {
        due("38: no ROWS yet", new IceKeys().row(0, 0), -9);
        for (int n = 0; n <= 4; n++) {
            IceKeys x = proven(n);
            for (int k : new int[] {Integer.MIN_VALUE, -1, n, n + 1, 4, 5, Integer.MAX_VALUE}) {
                for (int what = 0; what <= 2; what++) {
                    due("38: ROW " + k + " of " + n, x.row(k, what), -9);
                }
            }
            for (int k = 0; k < n; k++) {
                due("38: ROW " + k + " of " + n + " is there", x.row(k, 1) > 0 ? 1 : 0, 1);
            }
        }
        Check.edges("38: what", 0, 2, -9, what -> proven(4).row(3, what));
        // a ROW may hold -9 itself
        IceKeys x = proven(1);
        x.alterRow(0, 2, -9);
        due("38: it holds -9", x.row(0, 2), -9);
        // no ROW of an earlier, longer PLAN is left
        IceKeys y = proven(4);
        y.prove(2);
        due("38: the last of two", y.row(1, 1), 10);
        due("38: no third any more", y.row(2, 1), -9);
    }

    // DOC 39: It becomes v: what it was. -9 likewise.
    private static void alterRow() {
        due("39: no ROWS yet", new IceKeys().alterRow(0, 0, 1), -9);
        for (int n = 0; n <= 4; n++) {
            for (int k : new int[] {Integer.MIN_VALUE, -1, n, 4, Integer.MAX_VALUE}) {
                due("39: ROW " + k + " of " + n, proven(n).alterRow(k, 0, 1), -9);
            }
        }
        Check.edges("39: what", 0, 2, -9, what -> proven(4).alterRow(3, what, 5));
        IceKeys x = proven(4);
        int[][] was = {{1, 7, 1}, {2, 10, 3}, {0, 2, 3}, {0, 2, 3}};
        for (int k = 0; k < 4; k++) {
            for (int what = 0; what <= 2; what++) {
                due("39: what it was", x.alterRow(k, what, Integer.MIN_VALUE), was[k][what]);
                due("39: what it was", x.alterRow(k, what, Integer.MAX_VALUE), Integer.MIN_VALUE);
                due("39: what it is", x.row(k, what), Integer.MAX_VALUE);
                due("39: what it was", x.alterRow(k, what, was[k][what]), Integer.MAX_VALUE);
            }
        }
        due("39: as many ROWS", x.many(4), 4);
        due("39: nothing in the fort", x.state(4), 0);
        due("40: all is as it was", x.judge(), 0);
    }

    // DOC 40: THE READER takes ROWS as such: 0 all is right; else the first ROW that isn't, and 1 more.
    private static void judge() {
        due("40: no ROWS, all is right", new IceKeys().judge(), 0);
        due("40: ROWS of none", proven(0).judge(), 0);
        int[][] was = {{1, 7, 1}, {2, 10, 3}, {0, 2, 3}, {0, 2, 3}};
        for (int n = 1; n <= 4; n++) {
            due("40: all is right, n " + n, proven(n).judge(), 0);
        }
        for (int k = 0; k < 4; k++) {
            for (int what = 1; what <= 2; what++) {
                for (int by : new int[] {-1, 1, Integer.MIN_VALUE}) {
                    IceKeys x = proven(4);
                    x.alterRow(k, what, was[k][what] + by);
                    due("40: ROW " + k + ", what " + what, x.judge(), k + 1);
                }
            }
        }
        IceKeys now = proven(4);
        now.halt();
        due("40: from how it is now", now.judge(), 1);
        due("40: HALT is as it is now", now.state(0), 1);
        due("40: TURNED are as they are now", now.state(4), 1);
        IceKeys x = proven(4);
        x.alterRow(3, 1, 0);
        due("40: the last", x.judge(), 4);
        x.alterRow(1, 1, 0);
        due("40: the first that isn't right", x.judge(), 2);
        x.alterRow(0, 0, -1);
        due("40: the first of all", x.judge(), 1);
    }
}
