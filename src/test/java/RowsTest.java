/** Promises 37 to 40: rows. */
public final class RowsTest {
    public static void main(String[] args) {
        prove();
        row();
        alterRow();
        judge();
        judgeFromHowItIsNow();
        Check.end("RowsTest");
    }

    private static void due(String call, long got, long want) {
        Check.due(call, got, want);
    }

    private static void rows(IceKeys x, int[][] want) {
        due("37: many", x.many(4), want.length);
        for (int k = 0; k < want.length; k++) {
            for (int what = 0; what <= 2; what++) {
                due("38: row(" + k + ", " + what + ")", x.row(k, what), want[k][what]);
            }
        }
    }

    private static void prove() {
        IceKeys x = Check.twoIrons();
        due("37: below", x.prove(-1), -1);
        due("37: above", x.prove(5), -1);
        due("37: no rows yet", x.many(4), 0);
        due("37: prove", x.prove(1), 1);
        rows(x, new int[][] {{2, 9, 2}});
        due("37: prove", x.prove(4), 4);
        rows(x, new int[][] {{1, 7, 1}, {2, 10, 3}, {0, 2, 3}, {0, 2, 3}});
        due("37: a refusal leaves them", x.prove(5), -1);
        due("37: four", x.many(4), 4);
        due("37: nothing went by", x.state(0), 0);
        due("37: none is turned", x.state(4), 0);
        due("37: teeth stay", x.state(6), 80);
        x.ends(2);
        due("37: fewer", x.prove(4), 2);
        rows(x, new int[][] {{1, 7, 1}, {2, 10, 3}});
        due("37: none", x.prove(0), 0);
        due("37: none", x.many(4), 0);
        x.halt();
        due("37: none", x.prove(0), 0);
        due("37: halt stays", x.state(0), 1);
        due("37: turned stays", x.state(4), 1);
        x.halt();
        due("37: over", x.prove(4), 0);
        due("37: halt stays", x.state(0), 2);
    }

    private static void row() {
        IceKeys x = Check.twoIrons();
        due("38: none", x.row(0, 0), -9);
        x.prove(2);
        due("38: below", x.row(-1, 0), -9);
        due("38: above", x.row(2, 0), -9);
        due("38: what below", x.row(0, -1), -9);
        due("38: what above", x.row(0, 3), -9);
        due("38: far", x.row(Integer.MAX_VALUE, Integer.MIN_VALUE), -9);
        due("38: there", x.row(1, 2), 3);
        x.prove(1);
        due("38: no more", x.row(1, 2), -9);
    }

    private static void alterRow() {
        IceKeys x = Check.twoIrons();
        due("39: none", x.alterRow(0, 0, 5), -9);
        x.prove(2);
        due("39: what it was", x.alterRow(1, 1, Integer.MIN_VALUE), 10);
        due("38: what it is", x.row(1, 1), Integer.MIN_VALUE);
        due("39: what it was", x.alterRow(1, 1, 10), Integer.MIN_VALUE);
        due("39: below", x.alterRow(-1, 0, 5), -9);
        due("39: above", x.alterRow(2, 0, 5), -9);
        due("39: what below", x.alterRow(0, -1, 5), -9);
        due("39: what above", x.alterRow(0, 3, 5), -9);
        rows(x, new int[][] {{1, 7, 1}, {2, 10, 3}});
    }

    private static void judge() {
        IceKeys x = Check.twoIrons();
        due("40: no rows", x.judge(), 0);
        x.prove(4);
        due("40: all is right", x.judge(), 0);
        int[][] was = {{1, 7, 1}, {2, 10, 3}, {0, 2, 3}, {0, 2, 3}};
        for (int k = 0; k < 4; k++) {
            for (int what = 1; what <= 2; what++) {
                x.alterRow(k, what, was[k][what] + 1);
                due("40: row " + k + ", " + what, x.judge(), k + 1);
                x.alterRow(k, what, was[k][what]);
            }
            x.alterRow(k, 0, -1);
            due("40: no act", x.judge(), k + 1);
            x.alterRow(k, 0, 3);
            due("40: no act", x.judge(), k + 1);
            x.alterRow(k, 0, was[k][0]);
        }
        x.alterRow(3, 0, 1);
        due("40: another act, all the same", x.judge(), 0);
        x.alterRow(0, 0, 2);
        due("40: another act", x.judge(), 1);
        x.alterRow(0, 1, 9);
        x.alterRow(0, 2, 2);
        due("40: the next is wrong then", x.judge(), 2);
        x.alterRow(1, 0, 1);
        x.alterRow(1, 1, 8);
        due("40: the other best plan", x.judge(), 0);
        x.alterRow(1, 1, 9);
        x.alterRow(3, 1, 9);
        due("40: the first that isn't", x.judge(), 2);
        due("40: nothing went by", x.state(0), 0);
        due("40: none is turned", x.state(4), 0);
    }

    private static void judgeFromHowItIsNow() {
        IceKeys x = Check.twoIrons();
        x.prove(2);
        x.halt();
        due("40: the first is turned now", x.judge(), 1);
        x.anew();
        due("40: right again", x.judge(), 0);
        x.change(1, 1, 20);
        due("40: the second pays less", x.judge(), 2);
        x.change(1, 1, 60);
        x.ends(1);
        due("40: over ahead of the second", x.judge(), 2);
        x.halt();
        due("40: over", x.judge(), 1);
        x.prove(0);
        due("40: no rows", x.judge(), 0);
    }
}
