import java.nio.charset.StandardCharsets;

/** What the tests share: it prints every call whose answer is not the one that is due. */
final class Check {
    private static int wrong = 0;
    private static int seen = 0;

    private Check() {
    }

    static void due(String call, long got, long want) {
        seen++;
        if (got != want) {
            wrong++;
            System.out.println(call + " answered " + got + ", due is " + want);
        }
    }

    static void holds(String what, boolean is) {
        due(what, is ? 1 : 0, 1);
    }

    /** Ends the test: exit code 1 if an answer was not the one that is due. */
    static void end(String test) {
        System.out.println(test + ": " + seen + " answers, " + wrong + " wrong");
        if (wrong != 0 || seen == 0) {
            System.exit(1);
        }
    }

    /** Puts a text on THE TAPE: how many bytes it has then, or the first refusal. */
    static int feed(IceKeys x, String text) {
        byte[] bytes = text.getBytes(StandardCharsets.ISO_8859_1);
        int has = 0;
        for (int i = 0; i < bytes.length; i += 8) {
            long eight = 0;
            int n = Math.min(8, bytes.length - i);
            for (int j = 0; j < n; j++) {
                eight |= (bytes[i + j] & 255L) << (8 * j);
            }
            has = x.feed(eight, n);
            if (has < 0) {
                return has;
            }
        }
        return has;
    }

    static int tell(IceKeys x, String text) {
        feed(x, text);
        return x.rules();
    }

    /** Two irons that FIT at once: the first one PAYS 6, the other one 8. */
    static IceKeys twoIrons() {
        IceKeys x = new IceKeys();
        x.gate(0, 0, 5);
        x.key(1, 20, 0, 0);
        x.key(1, 60, 0, 0);
        return x;
    }

    /** Five KEYS of all KINDS, as the shared tests have them. */
    static IceKeys five() {
        IceKeys x = new IceKeys();
        x.gate(0, 0, 4);
        x.gate(1, 0, 5);
        x.gate(2, 1, 9);
        x.key(1, 30, 3, 1);
        x.key(2, 60, 6, 1);
        x.key(4, 75, 2, 2);
        x.key(5, 90, 9, 0);
        x.key(3, 44, 5, 3);
        return x;
    }
}
