import java.nio.charset.StandardCharsets;
import java.util.function.IntUnaryOperator;

/** What the tests share: it prints every call whose answer is not the one that is due. */
final class Check {
    private static int wrong = 0;
    private static int seen = 0;

    private Check() {
    }

    static void due(String call, long got, long want) {
        seen++;
        if (got != want) {
            wrong++;
            System.out.println(call + " answered " + got + ", due is " + want);
        }
    }

    static void holds(String what, boolean is) {
        due(what, is ? 1 : 0, 1);
    }

    /** The last value that is taken and the first that isn't, on both sides: f makes its own object. */
    static void edges(String call, int least, int most, int refusal, IntUnaryOperator f) {
        for (int v : new int[] {Integer.MIN_VALUE, least - 1, most + 1, Integer.MAX_VALUE}) {
            due(call + " with " + v, f.applyAsInt(v), refusal);
        }
        for (int v = least; v <= most; v++) {
            int got = f.applyAsInt(v);
            holds(call + " takes " + v + ", answered " + got, got != refusal);
        }
    }

    /** Ends the test: exit code 1 if an answer was not the one that is due. */
    static void end(String test) {
        System.out.println(test + ": " + seen + " answers, " + wrong + " wrong");
        if (wrong != 0 || seen == 0) {
            System.exit(1);
        }
    }

    /** Puts a text on THE TAPE: how many bytes it has then, or the first refusal. */
    static int feed(IceKeys x, String text) {
        byte[] bytes = text.getBytes(StandardCharsets.ISO_8859_1);
        int has = 0;
        for (int i = 0; i < bytes.length; i += 8) {
            long eight = 0;
            int n = Math.min(8, bytes.length - i);
            for (int j = 0; j < n; j++) {
                eight |= (bytes[i + j] & 255L) << (8 * j);
            }
            has = x.feed(eight, n);
            if (has < 0) {
                return has;
            }
        }
        return has;
    }

    static int tell(IceKeys x, String text) {
        feed(x, text);
        return x.rules();
    }

    /** A HALT goes by with this ACT: what it was WORTH. SHEET 3 is used for it. */
    static int tellKey(IceKeys x, int act) {
        x.sheet(3, 0, 1);
        x.write(3, 0, act);
        return x.goAll(3, 0, 1);
    }

    /** Two irons that FIT at once: the first one PAYS 6, the other one 8. */
    static IceKeys twoIrons() {
        IceKeys x = new IceKeys();
        x.gate(0, 0, 5);
        x.key(1, 20, 0, 0);
        x.key(1, 60, 0, 0);
        return x;
    }

    /** Five KEYS of all KINDS, as the shared tests have them. */
    static IceKeys five() {
        IceKeys x = new IceKeys();
        x.gate(0, 0, 4);
        x.gate(1, 0, 5);
        x.gate(2, 1, 9);
        x.key(1, 30, 3, 1);
        x.key(2, 60, 6, 1);
        x.key(4, 75, 2, 2);
        x.key(5, 90, 9, 0);
        x.key(3, 44, 5, 3);
        return x;
    }

    /** Something of everything: five KEYS, a RULE, REPORTS, ROWS, THE TAPE, SHEETS, SHELVES, THE TRACE; and it is kept. */
    static IceKeys rich() {
        IceKeys x = five();
        tell(x, "iron if teeth < 9 carry; third chill;");
        x.report(3, 0, 20, 99);
        x.report(0, 1, 2, 8);
        x.seed(77);
        x.sun(2, 14);
        x.keep();
        x.halt();
        x.lot();
        x.change(4, 1, 55);
        x.ends(10);
        x.report(1, 0, 5, 60);
        tell(x, "key if halt = 2 carry; salt chill; iron turn;");
        x.prove(3);
        x.alterRow(1, 1, -5);
        feed(x, "key chill; sleeve car");
        x.sheet(0, 0, 5);
        x.write(0, 1, 2);
        x.write(0, 4, 9);
        x.sheet(1, 3, 3);
        x.write(1, 2, 70000);
        x.sheet(2, 4, 0);
        x.shelf(0, 0, 4);
        x.shelf(1, 1, 1);
        x.shelf(2, 0, 1);
        x.act(0, 3, 12);
        // the fort is no more as it was when PLANS were sought
        x.change(1, 1, 41);
        x.change(3, 4, 1);
        return x;
    }
}
