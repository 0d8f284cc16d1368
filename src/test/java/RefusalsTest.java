import java.util.ArrayList;
import java.util.List;
import java.util.function.Supplier;
import java.util.function.ToIntFunction;

/** What the document's terms say of refusals and of what is asked: each refusal that is named, and that nothing is changed by it. */
public final class RefusalsTest {
    private static final int MOST = Integer.MAX_VALUE;
    private static final int LEAST = Integer.MIN_VALUE;

    private static final List<Supplier<IceKeys>> FORTS =
        List.of(IceKeys::new, Check::rich, RefusalsTest::full, RefusalsTest::over);

    public static void main(String[] args) {
        constants();
        refusedByAll();
        refusedByFull();
        refusedByOver();
        refusedByRich();
        refusedByNew();
        firstNamed();
        tapeIsUsedUp();
        asked();
        sets();
        quotients();
        Check.end("RefusalsTest");
    }

    private static void due(String call, long got, long want) {
        Check.due(call, got, want);
    }

    /** As much of everything as there can be. */
    private static IceKeys full() {
        IceKeys x = Check.rich();
        x.key(2, 33, 4, 5);
        for (int r = 3; r < 6; r++) {
            x.report(15, 0, 0, 99);
        }
        for (int i = 0; i < 22; i++) {
            x.feed(0x2020202020202020L, 8);
        }
        x.feed(0x2020202020202020L, 200 - x.many(5));
        x.prove(4);
        return x;
    }

    private static IceKeys over() {
        IceKeys x = Check.rich();
        x.ends(2);
        return x;
    }

    /** A call is answered so, and all that can be seen is as if it had not been. */
    private static void changesNothing(String name, Supplier<IceKeys> fort, ToIntFunction<IceKeys> call, int want) {
        IceKeys x = fort.get();
        due(name, call.applyAsInt(x), want);
        Look.same(name, x, fort.get());
    }

    // DOC T0: BAD (-1) there is no such thing, or a number is not as told; FULL (-2); NONE (-3); STATE (-4);
    private static void constants() {
        due("BAD", IceKeys.BAD, -1);
        due("FULL", IceKeys.FULL, -2);
        due("NONE", IceKeys.NONE, -3);
        due("STATE", IceKeys.STATE, -4);
    }

    // DOC T0: Answers below 0, where not told otherwise, are refusals; such a call changes nothing
    private static void refusedByAll() {
        List<ToIntFunction<IceKeys>> bad = new ArrayList<>();
        badOfTheFort(bad);
        badOfWhatIsAsked(bad);
        badOfTheHost(bad);
        for (int fort = 0; fort < FORTS.size(); fort++) {
            for (int i = 0; i < bad.size(); i++) {
                changesNothing("T0: BAD call " + i + " on fort " + fort, FORTS.get(fort), bad.get(i), -1);
            }
            changesNothing("38: no such ROW", FORTS.get(fort), x -> x.row(4, 0), -9);
            changesNothing("38: no such ROW", FORTS.get(fort), x -> x.row(-1, 0), -9);
            changesNothing("38: another what", FORTS.get(fort), x -> x.row(0, 3), -9);
            changesNothing("39: no such ROW", FORTS.get(fort), x -> x.alterRow(4, 0, 1), -9);
            changesNothing("39: no such ROW", FORTS.get(fort), x -> x.alterRow(-1, 0, 1), -9);
            changesNothing("39: another what", FORTS.get(fort), x -> x.alterRow(0, 3, 1), -9);
            changesNothing("39: another what", FORTS.get(fort), x -> x.alterRow(0, -1, 1), -9);
            changesNothing("41: -14", FORTS.get(fort), x -> x.sheet(0, 0, -1), -14);
            changesNothing("41: -14", FORTS.get(fort), x -> x.sheet(1, 3, LEAST), -14);
            changesNothing("41: -14", FORTS.get(fort), x -> x.sheet(3, 4, -1), -14);
            changesNothing("42: -11", FORTS.get(fort), x -> x.write(3, 0, 1), -11);
            changesNothing("43: -11", FORTS.get(fort), x -> x.item(3, 0, 0), -11);
            changesNothing("44: -11", FORTS.get(fort), x -> x.goAll(3, 0, 1), -11);
            changesNothing("45: -11", FORTS.get(fort), x -> x.wouldBe(3, 0, 1), -11);
            changesNothing("47: -11", FORTS.get(fort), x -> x.taken(3, 0), -11);
            changesNothing("47: -11", FORTS.get(fort), x -> x.taken(3, 10), -11);
            changesNothing("49: NONE", FORTS.get(fort), x -> x.trace(-1), -3);
            changesNothing("49: NONE", FORTS.get(fort), x -> x.trace(30), -3);
        }
    }

    private static void badOfTheFort(List<ToIntFunction<IceKeys>> bad) {
        int[][] keys = {{0, 1, 1, 1}, {6, 1, 1, 1}, {1, -1, 1, 1}, {1, 100, 1, 1}, {1, 1, -1, 1}, {1, 1, 10, 1}, {1, 1, 1, -1},
            {1, 1, 1, 6}};
        for (int[] k : keys) {
            bad.add(x -> x.key(k[0], k[1], k[2], k[3]));
        }
        for (int k : new int[] {LEAST, -1, 6, MOST}) {
            bad.add(x -> x.keyOf(k, 0));
            bad.add(x -> x.change(k, 1, 1));
            bad.add(x -> x.change(k, 4, 1));
            bad.add(x -> x.remake(k, 1));
            bad.add(x -> x.gate(k, 0, 1));
            bad.add(x -> x.gateOf(k, 0));
        }
        int[][] changes = {{0, 1}, {5, 1}, {-1, 1}, {1, -1}, {1, 100}, {2, -1}, {2, 10}, {3, -1}, {3, 6}, {4, -1}, {4, 2}};
        for (int[] c : changes) {
            bad.add(x -> x.change(0, c[0], c[1]));
        }
        bad.add(x -> x.keyOf(0, -1));
        bad.add(x -> x.keyOf(0, 10));
        bad.add(x -> x.remake(0, 0));
        bad.add(x -> x.remake(0, 6));
        int[][] suns = {{-1, 1}, {16, 1}, {0, -1}, {0, 16}};
        for (int[] s : suns) {
            bad.add(x -> x.sun(s[0], s[1]));
        }
        int[][] gates = {{-1, 1}, {2, 1}, {0, -1}, {0, 10}, {1, -1}, {1, 10}};
        for (int[] g : gates) {
            bad.add(x -> x.gate(1, g[0], g[1]));
        }
        bad.add(x -> x.gateOf(0, -1));
        bad.add(x -> x.gateOf(0, 2));
        for (int v : new int[] {LEAST, -1, 0, 17, MOST}) {
            bad.add(x -> x.ends(v));
        }
        bad.add(x -> x.state(-1));
        bad.add(x -> x.state(7));
        for (int n : new int[] {LEAST, -1, 0, 9, MOST}) {
            bad.add(x -> x.feed(0x2020202020202020L, n));
        }
    }

    private static void badOfWhatIsAsked(List<ToIntFunction<IceKeys>> bad) {
        for (int k : new int[] {LEAST, -1, 6, MOST}) {
            bad.add(x -> x.when(k));
            bad.add(x -> x.strawFor(k));
            bad.add(x -> x.gateFor(k));
            bad.add(x -> x.gone(k));
            bad.add(x -> x.opens(k));
        }
        bad.add(x -> x.bunches(-2));
        bad.add(x -> x.bunches(6));
        bad.add(x -> x.on(-1));
        bad.add(x -> x.on(17));
        bad.add(x -> x.left(-1, 0));
        bad.add(x -> x.left(17, 0));
        bad.add(x -> x.left(0, -1));
        bad.add(x -> x.left(0, 2));
        for (int n : new int[] {LEAST, -1, 5, MOST}) {
            bad.add(x -> x.best(n));
            bad.add(x -> x.ith(n, 0));
            bad.add(x -> x.ith(4, n));
            bad.add(x -> x.ways(n));
            bad.add(x -> x.order(n, 0));
            bad.add(x -> x.bars(n, 0));
            bad.add(x -> x.game(n));
            bad.add(x -> x.play(n));
            bad.add(x -> x.prove(n));
            bad.add(x -> x.lone(n));
        }
        bad.add(x -> x.game(0));
        bad.add(x -> x.play(0));
        for (int keys : new int[] {LEAST, -1, 64, MOST}) {
            bad.add(x -> x.order(2, keys));
            bad.add(x -> x.bars(2, keys));
        }
        int[][] reports = {{-1, 0, 0, 1}, {16, 0, 0, 1}, {0, -1, 0, 1}, {0, 2, 0, 1}, {0, 0, -1, 1}, {0, 0, 0, 100}, {0, 1, 0, 10},
            {0, 0, 5, 4}, {0, 1, 9, 8}};
        for (int[] r : reports) {
            bad.add(x -> x.report(r[0], r[1], r[2], r[3]));
        }
        int[][] times = {{0, 1}, {41, 1}, {1, -1}, {1, 1000}};
        for (int[] t : times) {
            bad.add(x -> x.times(t[0], t[1]));
        }
    }

    private static void badOfTheHost(List<ToIntFunction<IceKeys>> bad) {
        for (int place : new int[] {LEAST, -1, 4, MOST}) {
            bad.add(x -> x.sheet(place, 0, 1));
            bad.add(x -> x.sheet(place, -1, 1));
            bad.add(x -> x.write(place, 0, 1));
            bad.add(x -> x.item(place, 0, 0));
            bad.add(x -> x.goAll(place, 0, 1));
            bad.add(x -> x.wouldBe(place, 0, 1));
            bad.add(x -> x.shelf(place, 2, 0));
            bad.add(x -> x.shelf(0, 1, place));
            bad.add(x -> x.taken(place, 0));
        }
        bad.add(x -> x.sheet(0, -2, 1));
        bad.add(x -> x.sheet(0, 5, 1));
        bad.add(x -> x.sheet(0, 0, 41));
        bad.add(x -> x.sheet(1, 3, MOST));
        bad.add(x -> x.item(0, -1, 0));
        bad.add(x -> x.item(0, 5, 0));
        bad.add(x -> x.goAll(0, 0, -1));
        bad.add(x -> x.goAll(0, 0, 21));
        bad.add(x -> x.wouldBe(0, 0, -1));
        bad.add(x -> x.wouldBe(0, 0, 21));
        bad.add(x -> x.shelf(0, -1, 0));
        bad.add(x -> x.shelf(0, 3, 0));
        bad.add(x -> x.shelf(0, 0, -1));
        bad.add(x -> x.shelf(0, 0, 6));
        for (int as : new int[] {-1, 6, 9, 15}) {
            bad.add(x -> x.taken(0, as));
        }
        bad.add(x -> x.many(-1));
        bad.add(x -> x.many(7));
    }

    private static void refusedByFull() {
        changesNothing("2: FULL", RefusalsTest::full, x -> x.key(1, 1, 1, 1), -2);
        changesNothing("12: FULL", RefusalsTest::full, x -> x.feed(32, 1), -2);
        changesNothing("12: FULL", RefusalsTest::full, x -> x.feed(0x2020202020202020L, 8), -2);
        changesNothing("30: FULL", RefusalsTest::full, x -> x.report(0, 0, 0, 99), -2);
    }

    private static void refusedByOver() {
        changesNothing("14: STATE", RefusalsTest::over, x -> x.halt(), -4);
        changesNothing("35: STATE", RefusalsTest::over, x -> x.lot(), -4);
        changesNothing("9: STATE", RefusalsTest::over, x -> x.ends(1), -4);
        changesNothing("16: NONE", RefusalsTest::over, x -> x.when(3), -3);
        changesNothing("19: NONE", RefusalsTest::over, x -> x.gone(1), -3);
        changesNothing("24: NONE", RefusalsTest::over, x -> x.ith(4, 0), -3);
        changesNothing("26: NONE", RefusalsTest::over, x -> x.order(4, 31), -3);
        changesNothing("29: NONE", RefusalsTest::over, x -> x.play(4), -3);
        changesNothing("45: STATE", RefusalsTest::over, x -> x.wouldBe(0, 0, 1), -4);
    }

    private static void refusedByRich() {
        changesNothing("9: STATE", Check::rich, x -> x.ends(1), -4);
        changesNothing("16: NONE", Check::rich, x -> x.when(0), -3);
        changesNothing("19: NONE", Check::rich, x -> x.gone(0), -3);
        changesNothing("24: NONE", Check::rich, x -> x.ith(2, 2), -3);
        changesNothing("26: NONE", Check::rich, x -> x.order(0, 31), -3);
        changesNothing("27: NONE", Check::rich, x -> x.bars(0, 1), -3);
        changesNothing("33: NONE", Check::rich, x -> x.liar(), -3);
        changesNothing("42: -12", Check::rich, x -> x.write(0, 5, 1), -12);
        changesNothing("42: -12", Check::rich, x -> x.write(0, -1, 1), -12);
        changesNothing("42: -12", Check::rich, x -> x.write(2, 0, 1), -12);
        changesNothing("43: -13", Check::rich, x -> x.item(1, 2, 0), -13);
        changesNothing("43: -12", Check::rich, x -> x.item(1, 3, 3), -12);
        changesNothing("44: -13", Check::rich, x -> x.goAll(1, 0, 1), -13);
        changesNothing("44: -12, nothing stood ahead", Check::rich, x -> x.goAll(0, 5, 1), -12);
        changesNothing("44: -12, nothing stood ahead", Check::rich, x -> x.goAll(0, -1, 5), -12);
        changesNothing("45: -13", Check::rich, x -> x.wouldBe(2, 0, 1), -13);
        changesNothing("45: -12", Check::rich, x -> x.wouldBe(0, 5, 1), -12);
        changesNothing("45: STATE", Check::rich, x -> x.wouldBe(0, 3, 5), -4);
        changesNothing("46: no such KEY", Check::rich, x -> x.shelf(2, 0, 5), -1);
        changesNothing("47: -13", Check::rich, x -> x.taken(0, 1), -13);
        changesNothing("47: -13", Check::rich, x -> x.taken(0, 10), -13);
        changesNothing("47: -13", Check::rich, x -> x.taken(1, 0), -13);
        changesNothing("47: -13", Check::rich, x -> x.taken(1, 10), -13);
        // no KEY 5 there
        List<ToIntFunction<IceKeys>> noKey = List.of(x -> x.keyOf(5, 0), x -> x.change(5, 4, 1), x -> x.remake(5, 1),
            x -> x.when(5), x -> x.strawFor(5), x -> x.gateFor(5), x -> x.gone(5), x -> x.opens(5), x -> x.bunches(5),
            x -> x.order(2, 32), x -> x.bars(2, 32));
        for (ToIntFunction<IceKeys> call : noKey) {
            changesNothing("T0: no KEY 5", Check::rich, call, -1);
        }
        changesNothing("38: no ROW 3", Check::rich, x -> x.row(3, 0), -9);
        changesNothing("39: no ROW 3", Check::rich, x -> x.alterRow(3, 0, 5), -9);
        // 11 bodies ran
        changesNothing("49: NONE", Check::rich, x -> x.trace(11), -3);
        changesNothing("32: NONE", RefusalsTest::noneFits, x -> x.lone(1), -3);
        changesNothing("33: LIAR is asked", RefusalsTest::noneFits, x -> x.liar(), 3);
    }

    private static IceKeys noneFits() {
        IceKeys x = Check.rich();
        x.report(0, 0, 0, 0);
        return x;
    }

    private static void refusedByNew() {
        changesNothing("52: NONE", IceKeys::new, x -> x.again(), -3);
        changesNothing("52: NONE", Check::five, x -> x.again(), -3);
        changesNothing("T0: no KEY yet", IceKeys::new, x -> x.change(0, 1, 1), -1);
        changesNothing("38: no ROWS yet", IceKeys::new, x -> x.row(0, 0), -9);
        changesNothing("39: no ROWS yet", IceKeys::new, x -> x.alterRow(0, 0, 0), -9);
        changesNothing("49: no TRACE yet", IceKeys::new, x -> x.trace(0), -3);
    }

    // DOC T0: of several the first named:
    private static void firstNamed() {
        due("2: BAD, FULL", full().key(1, 1, 1, 6), -1);
        due("9: BAD, STATE", Check.rich().ends(0), -1);
        due("12: BAD, FULL", full().feed(0, 9), -1);
        due("24: BAD, NONE", over().ith(5, 0), -1);
        due("24: BAD, NONE", over().ith(4, 4), -1);
        due("26: BAD, NONE", over().order(4, 32), -1);
        due("29: BAD, NONE", over().play(5), -1);
        due("30: BAD, FULL", full().report(0, 0, 9, 8), -1);
        due("32: BAD, NONE", noneFits().lone(4), -1);
        due("41: BAD, -14", new IceKeys().sheet(4, 0, -1), -1);
        due("42: BAD, -12", new IceKeys().write(4, -1, 0), -1);
        due("42: -11, -12", new IceKeys().write(0, -1, 0), -11);
        due("43: BAD, -13", Check.rich().item(1, 5, 0), -1);
        due("43: -13, -12", Check.rich().item(1, 0, 9), -13);
        due("43: -11, -12", new IceKeys().item(0, 0, 9), -11);
        due("44: BAD, -13", Check.rich().goAll(1, 0, 21), -1);
        due("44: BAD, -11", new IceKeys().goAll(0, 0, 21), -1);
        due("44: -13, -12", Check.rich().goAll(1, 9, 1), -13);
        due("44: -11, -12", new IceKeys().goAll(0, 9, 1), -11);
        due("45: BAD, -13", Check.rich().wouldBe(1, 0, 21), -1);
        due("45: -13, -12", Check.rich().wouldBe(1, 9, 1), -13);
        due("45: -11, -12", new IceKeys().wouldBe(0, 9, 1), -11);
        due("45: -12, STATE", over().wouldBe(0, 9, 1), -12);
        due("47: BAD, -11", new IceKeys().taken(0, 6), -1);
        due("47: BAD, -13", Check.rich().taken(0, 6), -1);
        due("13: the first FAULT", Check.tell(new IceKeys(), "x 12345 ((((("), -100);
    }

    // DOC T0: and what the host refuses: -11 nothing where something is asked, -12 a place outside, -13 a thing of another sort or kind, -14 a size below 0, -15 parted by 0.
    // DOC T0: (but that THE TAPE is used up by rules());
    private static void tapeIsUsedUp() {
        IceKeys x = Check.rich();
        due("13: a FAULT", x.rules(), -118);
        due("13: THE TAPE is used up", x.many(5), 0);
        // nothing else is changed: as if THE TAPE had never been fed
        IceKeys y = Check.rich();
        y.rules();
        Check.feed(y, "key chill; sleeve car");
        Look.same("13: a FAULT changes nothing else", y, Check.rich());
        IceKeys z = full();
        due("13: a FAULT", z.rules(), -118);
        due("13: THE TAPE is used up", z.many(5), 0);
        due("13: RULES are as they were", z.many(1), 3);
        // -15 is an answer of act() whose TRACE is the latest: all else is as it was
        IceKeys parted = Check.rich();
        parted.change(4, 3, 1);
        due("48: -15", parted.act(0, 2, 5), -15);
        parted.change(4, 3, 3);
        parted.act(0, 3, 12);
        Look.same("48: -15 changes nothing but THE TRACE", parted, Check.rich());
    }

    // DOC T3: What is asked changes nothing, if not told.
    private static void asked() {
        List<ToIntFunction<IceKeys>> calls = new ArrayList<>(List.of(x -> x.when(2), x -> x.when(3), x -> x.strawFor(1),
            x -> x.strawFor(4), x -> x.gateFor(0), x -> x.gateFor(4), x -> x.gone(1), x -> x.gone(4), x -> x.opens(2),
            x -> x.bunches(-1), x -> x.bunches(3), x -> x.lone(0), x -> x.lone(1), x -> x.lone(3), x -> x.liar(), x -> x.judge(),
            x -> x.times(40, 5), x -> x.times(1, 0), x -> x.wouldBe(0, 0, 3), x -> x.wouldBe(0, 0, 4), x -> x.taken(0, 2)));
        for (int n = 0; n <= 4; n++) {
            int it = n;
            calls.addAll(List.of(x -> x.best(it), x -> x.ith(it, 0), x -> x.ways(it), x -> x.order(it, 21), x -> x.bars(it, 31),
                x -> x.game(Math.max(1, it)), x -> x.play(Math.max(1, it)), x -> x.on(4 * it), x -> x.left(4 * it, 0),
                x -> x.left(4 * it, 1)));
        }
        for (int what = 0; what <= 9; what++) {
            int it = what;
            calls.addAll(List.of(x -> x.keyOf(1, it), x -> x.state(it), x -> x.many(it), x -> x.gateOf(2, it), x -> x.trace(it),
                x -> x.row(1, it), x -> x.item(0, 0, it)));
        }
        for (int fort = 0; fort < FORTS.size(); fort++) {
            for (int i = 0; i < calls.size(); i++) {
                IceKeys x = FORTS.get(fort).get();
                int first = calls.get(i).applyAsInt(x);
                due("T3: asked again, call " + i + ", fort " + fort, calls.get(i).applyAsInt(x), first);
                Look.same("T3: asked, call " + i + ", fort " + fort, x, FORTS.get(fort).get());
            }
        }
        // prove() changes ROWS alone, act() THE TRACE alone
        IceKeys x = Check.rich();
        IceKeys was = Check.rich();
        x.prove(0);
        x.prove(3);
        for (int i = 0; i < 9; i++) {
            x.alterRow(i / 3, i % 3, was.row(i / 3, i % 3));
        }
        x.act(2, 1, 5);
        x.act(0, 3, 12);
        Look.same("37, 48: nothing else", x, was);
    }

    // DOC T0: Sets are told by bits.
    private static void sets() {
        IceKeys x = new IceKeys();
        for (int k = 0; k < 6; k++) {
            x.key(1, 50, 0, 0);
        }
        x.change(1, 4, 1);
        x.change(5, 4, 1);
        due("T0: TURNED", x.state(4), 34);
        due("T0: LEFT", x.left(0, 1), 34);
        due("T0: a BUNCH", x.bunches(0), 29);
        due("T0: OPENS", x.opens(0), 32);
        due("T0: KEYS 1 and 5 by order()", x.order(0, 34), 0);
        due("T0: KEYS 0, 1, 5 by bars()", x.bars(0, 35), 0);
    }

    // DOC T0: Quotients are cut towards 0.
    private static void quotients() {
        IceKeys x = new IceKeys();
        x.gate(0, 1, 7);
        x.key(3, 99, 7, 0);
        due("T0: a fourth of 7", x.keyOf(0, 6), 9);
        due("T0: half of 9, less a third of 7", x.keyOf(0, 5), 2);
        due("T0: a fourth of 7 apart", x.opens(0), 0b1100000000);
        x.shelf(0, 0, 0);
        // -7 by 3 is -2, and leaves -1
        due("T0: -7 leaves -1 by 3", x.act(0, 2, -7), -1);
        due("T0: -8 leaves -2 by 3", x.act(0, 2, -8), -2);
    }
}
