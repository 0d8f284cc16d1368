/** Promises 51 and 52: forts kept. */
public final class KeptTest {
    public static void main(String[] args) {
        nothingKept();
        allIsKept();
        notKept();
        itStays();
        shelvesByNumber();
        Check.end("KeptTest");
    }

    private static void due(String call, long got, long want) {
        Check.due(call, got, want);
    }

    private static void nothingKept() {
        IceKeys x = new IceKeys();
        x.key(1, 20, 0, 0);
        due("52: nothing is kept", x.again(), -3);
        due("52: nothing is changed", x.many(0), 1);
        due("51: keep", x.keep(), 1);
        due("52: again", x.again(), 1);
    }

    private static IceKeys full() {
        IceKeys x = Check.five();
        Check.tell(x, "iron if teeth < 50 turn; key carry;");
        x.sun(3, 11);
        x.gate(4, 1, 7);
        x.ends(14);
        x.report(0, 0, 9, 49);
        x.report(0, 0, 0, 99);
        x.report(0, 0, 0, 99);
        x.report(0, 0, 0, 99);
        x.report(0, 0, 0, 99);
        x.report(2, 1, 2, 5);
        x.halt();
        x.seed(88);
        return x;
    }

    private static void look(IceKeys x) {
        int[] state = {1, 14, 7, 0, 1, 5, 288};
        for (int what = 0; what < state.length; what++) {
            due("52: state(" + what + ")", x.state(what), state[what]);
        }
        int[][] keys = {{1, 30, 3, 1, 1}, {2, 53, 6, 1, 0}, {4, 74, 2, 2, 0}, {5, 90, 9, 0, 0}, {3, 41, 5, 3, 0}};
        for (int k = 0; k < keys.length; k++) {
            for (int what = 0; what <= 4; what++) {
                due("52: keyOf(" + k + ", " + what + ")", x.keyOf(k, what), keys[k][what]);
            }
        }
        due("52: no sixth", x.keyOf(5, 0), -1);
        due("52: ward", x.gateOf(1, 0), 5);
        due("52: slack", x.gateOf(4, 1), 7);
        due("52: sun", x.sun(3, 11), 11);
        due("52: rules", x.many(1), 2);
        due("52: will", x.keyOf(0, 9), 0);
        due("52: will", x.keyOf(1, 9), 1);
        due("52: reports", x.many(3), 6);
        due("52: lone", x.lone(0), loneByHand());
        due("52: z", x.seed(88), 88);
    }

    /** LONE KEYS by the first and the last REPORT of full(), counted anew: TEETH at first 9 to 49, and SHAPE 2 to 5 behind 2. */
    private static int loneByHand() {
        int count = 0;
        for (int straw = 0; straw <= 9; straw++) {
            for (int teeth = 9; teeth <= 49; teeth += 10) {
                int third = straw / 3;
                int sleeve = Math.max(0, teeth - 2 * (9 - third));
                int half = Math.max(0, teeth - 2 * Math.max(0, 4 - third));
                int salt = Math.max(0, teeth - 2 * Math.max(0, 1 - third));
                int[] shapes = {5, sleeve / 10 + sleeve / 50, Math.max(0, half / 10 + half / 50 - straw / 4), salt / 12,
                    salt / 12};
                for (int shape : shapes) {
                    count += shape >= 2 && shape <= 5 ? 1 : 0;
                }
            }
        }
        return count;
    }

    private static void spoil(IceKeys x) {
        x.halt();
        x.lot();
        x.key(1, 1, 1, 1);
        x.change(0, 1, 77);
        x.change(1, 2, 0);
        x.change(2, 3, 5);
        x.change(3, 4, 1);
        x.remake(4, 1);
        x.sun(3, 0);
        x.sun(2, 0);
        x.gate(1, 0, 0);
        x.gate(4, 1, 0);
        x.ends(16);
        Check.tell(x, "key if 1 > 2 or 3 > 4 carry; key chill;");
        x.forget();
        for (int r = 0; r < 5; r++) {
            x.report(0, 0, 0, 0);
        }
        x.seed(5);
        x.anew();
    }

    private static void allIsKept() {
        IceKeys x = full();
        look(x);
        due("51: keep", x.keep(), 1);
        look(x);
        spoil(x);
        due("52: again", x.again(), 5);
        look(x);
    }

    private static void itStays() {
        IceKeys x = full();
        x.keep();
        spoil(x);
        x.again();
        spoil(x);
        due("52: once more", x.again(), 5);
        look(x);
        spoil(x);
        due("51: another", x.keep(), 1);
        x.again();
        due("52: what was kept latest", x.many(0), 6);
        due("52: what was kept latest", x.state(1), 16);
        due("52: what was kept latest", x.many(1), 2);
        due("52: what was kept latest", x.keyOf(0, 9), 2);
        due("52: what was kept latest", x.lone(0), 0);
    }

    private static void notKept() {
        IceKeys x = full();
        x.keep();
        x.feed(0x6E72757420796B65L, 8);
        x.prove(3);
        x.sheet(1, 1, 4);
        x.write(1, 3, 6);
        x.shelf(2, 1, 1);
        x.shelf(3, 0, 2);
        x.act(3, 1, 4);
        x.again();
        due("52: the tape stays", x.many(5), 8);
        due("52: rows stay", x.many(4), 3);
        due("52: sheets stay", x.item(1, 1, 3), 6);
        due("52: shelves stay", x.taken(2, 11), 4);
        due("52: shelves stay", x.taken(3, 4), 2);
        due("52: the trace stays", x.many(6), 2);
        due("52: the trace stays", x.trace(0), 11);
    }

    private static void shelvesByNumber() {
        IceKeys x = new IceKeys();
        x.key(1, 10, 0, 0);
        x.keep();
        x.key(2, 20, 0, 0);
        x.shelf(0, 0, 1);
        due("47: there", x.taken(0, 2), 1);
        x.again();
        due("47: no such one now", x.taken(0, 2), -11);
        due("48: no such one now", x.act(0, 0, 5), 0);
        x.key(4, 20, 0, 0);
        due("47: another of its number", x.taken(0, 4), 1);
        due("47: of another kind", x.taken(0, 2), -13);
        due("48: another of its number", x.act(0, 0, 5), 41);
    }
}
