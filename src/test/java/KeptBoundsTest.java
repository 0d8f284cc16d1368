import java.util.List;
import java.util.function.Consumer;

/** The bounds that promises 51 and 52 name: a test for each sentence. */
public final class KeptBoundsTest {
    /** Each changes one thing that is kept. */
    private static final List<Consumer<IceKeys>> KEPT = List.of(x -> x.key(1, 9, 9, 0), x -> x.change(0, 1, 99),
        x -> x.change(1, 2, 0), x -> x.change(2, 3, 5), x -> x.change(2, 4, 1), x -> x.change(0, 4, 0), x -> x.remake(4, 2),
        x -> x.sun(0, 15), x -> x.sun(15, 0), x -> x.gate(0, 0, 9), x -> x.gate(5, 1, 9), x -> x.ends(16), x -> x.anew(),
        x -> x.halt(), x -> x.lot(), x -> x.seed(-9), x -> x.forget(), x -> x.report(15, 0, 0, 1), x -> x.goAll(0, 0, 2),
        x -> anotherReport(x));

    public static void main(String[] args) {
        allIsKept();
        rulesAreKept();
        keptOfNone();
        whatIsNotKept();
        keptLatest();
        whichStays();
        nothingIsKept();
        Check.end("KeptBoundsTest");
    }

    private static void due(String call, long got, long want) {
        Check.due(call, got, want);
    }

    /** As many REPORTS as there were, but others. */
    private static void anotherReport(IceKeys x) {
        x.forget();
        for (int r = 0; r < 3; r++) {
            x.report(0, 0, 9, 9);
        }
    }

    private static IceKeys kept() {
        IceKeys x = Check.rich();
        x.keep();
        return x;
    }

    // DOC 51: All but THE TAPE, ROWS, SHEETS, SHELVES, THE TRACE is kept: 1.
    private static void allIsKept() {
        due("51: keep", Check.rich().keep(), 1);
        due("51: keep of a new one", new IceKeys().keep(), 1);
        for (int i = 0; i < KEPT.size(); i++) {
            IceKeys x = kept();
            KEPT.get(i).accept(x);
            due("52: how many KEYS", x.again(), 5);
            Look.same("51: kept, change " + i, x, kept());
        }
        IceKeys x = kept();
        for (Consumer<IceKeys> change : KEPT) {
            change.accept(x);
        }
        x.again();
        Look.same("51: kept, all changes", x, kept());
        // to keep changes nothing but what is kept
        IceKeys y = Check.rich();
        y.keep();
        y.again();
        IceKeys z = Check.rich();
        for (int what = 0; what <= 6; what++) {
            due("51: state(" + what + ")", y.state(what), z.state(what));
            due("51: many(" + what + ")", y.many(what), z.many(what));
        }
    }

    private static void rulesAreKept() {
        for (String other : new String[] {"", "key chill;", "iron carry; iron if 1<2 or 2<3 chill; key turn; salt turn;"}) {
            IceKeys x = new IceKeys();
            x.key(1, 50, 0, 0);
            Check.tell(x, "salt turn; iron if teeth > 49 and not (straw > 0 or heat = 3) carry; key chill;");
            x.keep();
            due("51: other RULES", Check.tell(x, other) >= 0 ? 1 : 0, 1);
            x.again();
            due("51: three RULES", x.many(1), 3);
            due("51: WILL", x.keyOf(0, 9), 1);
            x.change(0, 1, 49);
            due("51: WILL by the third", x.keyOf(0, 9), 2);
        }
    }

    private static void keptOfNone() {
        IceKeys x = new IceKeys();
        x.keep();
        for (int k = 0; k < 6; k++) {
            x.key(1, 50, 0, 0);
            x.change(k, 4, 1);
        }
        due("52: no KEYS were kept", x.again(), 0);
        due("52: none", x.many(0), 0);
        due("52: none is TURNED", x.state(4), 0);
        due("52: room for six again", x.key(1, 50, 0, 0), 0);
        IceKeys six = new IceKeys();
        for (int k = 0; k < 6; k++) {
            six.key(1, 10 + k, 0, 0);
        }
        six.keep();
        due("52: six KEYS", six.again(), 6);
        due("52: the last of them", six.keyOf(5, 1), 15);
        due("52: FULL", six.key(1, 1, 1, 1), -2);
    }

    private static void whatIsNotKept() {
        List<Consumer<IceKeys>> changes = List.of(x -> x.feed(32, 1), x -> x.prove(1), x -> x.prove(0), x -> x.alterRow(0, 0, 5),
            x -> x.sheet(0, -1, 0), x -> x.sheet(3, 2, 2), x -> x.write(0, 0, 7), x -> x.shelf(0, 2, 0), x -> x.shelf(3, 0, 2),
            x -> x.shelf(0, 1, 0), x -> x.act(0, 2, 1), x -> x.act(9, 0, 0));
        for (int i = 0; i < changes.size(); i++) {
            IceKeys x = kept();
            changes.get(i).accept(x);
            x.again();
            IceKeys y = kept();
            changes.get(i).accept(y);
            Look.same("51: not kept, change " + i, x, y);
        }
        // THE TAPE that was used up since is not there again; what it told is gone
        IceKeys x = kept();
        x.rules();
        x.again();
        due("51: THE TAPE is used up", x.many(5), 0);
        // a SHELF holds a KEY by its number alone
        IceKeys y = new IceKeys();
        y.key(1, 50, 0, 0);
        y.keep();
        y.key(2, 50, 0, 0);
        y.shelf(0, 0, 1);
        y.again();
        due("51: no such KEY at the time", y.taken(0, 2), -11);
    }

    // DOC 52: It becomes what was kept latest (which stays): how many KEYS.
    private static void keptLatest() {
        IceKeys x = new IceKeys();
        x.keep();
        for (int k = 0; k < 6; k++) {
            x.key(1, 50, 0, k);
            due("51: keep", x.keep(), 1);
            x.key(2, 60, 1, 1);
            due("52: the latest", x.again(), k + 1);
            due("52: how many", x.many(0), k + 1);
        }
    }

    private static void whichStays() {
        for (int i = 0; i < KEPT.size(); i++) {
            IceKeys x = kept();
            x.again();
            KEPT.get(i).accept(x);
            due("52: again", x.again(), 5);
            KEPT.get(i).accept(x);
            due("52: and again", x.again(), 5);
            Look.same("52: it stays, change " + i, x, kept());
        }
    }

    // DOC 52: NONE: nothing is kept.
    private static void nothingIsKept() {
        due("52: nothing is kept", new IceKeys().again(), -3);
        IceKeys x = Check.five();
        due("52: nothing is kept", x.again(), -3);
        due("52: nothing is changed", x.many(0), 5);
        x.keep();
        due("52: kept now", x.again(), 5);
        due("52: nothing is kept of another object", new IceKeys().again(), -3);
    }
}
