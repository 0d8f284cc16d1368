/** Promises 14 to 22: halts; which is gone when, what it opens, what is left, bunches. */
public final class HaltsTest {
    public static void main(String[] args) {
        halt();
        chillAndCarry();
        leastFirst();
        on();
        when();
        strawFor();
        gateFor();
        gone();
        opens();
        left();
        bunches();
        nothingIsChanged();
        Check.end("HaltsTest");
    }

    private static void due(String call, long got, long want) {
        Check.due(call, got, want);
    }

    /** One salt that FITS WARD 0, loses 1 of its TEETH each HALT, and is TURNED in the first. */
    private static IceKeys salt(int teeth) {
        IceKeys x = new IceKeys();
        x.key(4, teeth, 0, 0);
        return x;
    }

    private static void halt() {
        IceKeys x = salt(3);
        due("14: pays 5, is worth 1 more", x.halt(), 6);
        due("14: turned", x.keyOf(0, 4), 1);
        due("14: teeth", x.keyOf(0, 1), 2);
        due("14: halt", x.state(0), 1);
        due("14: worth 1", x.halt(), 1);
        due("14: no teeth any more", x.halt(), 0);
        due("14: teeth", x.keyOf(0, 1), 0);
        due("14: score", x.state(2), 7);
        x.ends(3);
        due("14: over", x.halt(), -4);
        due("14: halt stays", x.state(0), 3);
        due("14: score stays", x.state(2), 7);
        x.ends(4);
        due("14: not over", x.halt(), 0);
        IceKeys none = new IceKeys();
        for (int i = 0; i < 12; i++) {
            due("14: no keys", none.halt(), 0);
        }
        due("14: over", none.halt(), -4);
        IceKeys five = Check.five();
        due("14: five keys", five.halt(), 7);
        due("14: iron", five.keyOf(0, 1), 30);
        due("14: sleeve melts 7, its other is turned", five.keyOf(1, 1), 53);
        due("14: salt", five.keyOf(2, 1), 74);
        due("14: spare in straw", five.keyOf(3, 1), 90);
        due("14: third", five.keyOf(4, 1), 41);
    }

    /** HALTS in which KEYS are told otherwise than in THE REST: by goAll. */
    private static void chillAndCarry() {
        IceKeys x = new IceKeys();
        x.key(4, 80, 0, 0);
        x.gate(0, 0, 6);
        x.sun(0, 2);
        x.sun(1, 1);
        x.sun(2, 3);
        x.sun(3, 2);
        x.sun(4, 6);
        x.sheet(0, 0, 10);
        for (int i = 0; i < 10; i++) {
            x.write(0, i, 1);
        }
        Check.tell(x, "key chill;");
        due("14: chill by shade 2", x.goAll(0, 0, 1), 1);
        due("14: 7 more", x.keyOf(0, 1), 87);
        due("14: no chill by shade 1", x.goAll(0, 0, 1), 0);
        due("14: as many", x.keyOf(0, 1), 87);
        due("14: chill by shade 3", x.goAll(0, 0, 1), 1);
        due("14: 7 more", x.keyOf(0, 1), 94);
        due("14: chill", x.goAll(0, 0, 1), 1);
        due("14: 99 at most", x.keyOf(0, 1), 99);
        due("14: chill, then melts", x.goAll(0, 0, 1), 1);
        due("14: 99, less by 1", x.keyOf(0, 1), 98);
        due("14: none turned", x.state(4), 0);
        due("14: score", x.state(2), 4);
        x.change(0, 1, 0);
        x.sun(5, 2);
        due("14: chilled from no teeth", x.goAll(0, 0, 1), 1);
        due("14: 7", x.keyOf(0, 1), 7);
        Check.tell(x, "key carry;");
        x.change(0, 1, 72);
        due("14: carry", x.goAll(0, 0, 1), 0);
        due("14: none turned", x.state(4), 0);
        Check.tell(x, "");
        x.change(0, 1, 72);
        due("14: turn", x.goAll(0, 0, 1), 9);
        due("14: turned", x.state(4), 1);
        due("14: a turned one is told nothing", x.goAll(0, 0, 1), 1);
        Check.tell(x, "key chill;");
        x.sun(9, 2);
        x.halt();
        due("14: nor is it chilled", x.goAll(0, 0, 1), 1);
    }

    private static void leastFirst() {
        IceKeys x = new IceKeys();
        x.gate(0, 0, 5);
        x.key(1, 20, 0, 1);
        x.key(1, 20, 0, 0);
        x.key(1, 90, 0, 0);
        due("14: the least that may turn", x.halt(), 7);
        due("14: turned", x.state(4), 2);
        due("14: then the next", x.halt(), 11);
        due("14: turned", x.state(4), 6);
        due("14: then none", x.halt(), 2);
        x.anew();
        x.sun(0, 2);
        Check.tell(x, "key chill;");
        due("14: none is chilled in the rest", x.halt(), 0);
        due("14: teeth stay", x.keyOf(0, 1), 20);
        x.anew();
        Check.tell(x, "key if number = 1 carry;");
        due("14: whose will is another isn't told", x.halt(), 10);
        due("14: turned", x.state(4), 4);
    }

    private static void on() {
        IceKeys x = salt(3);
        int[] want = {0, 6, 7, 7, 7};
        for (int n = 0; n < want.length; n++) {
            due("15: on(" + n + ")", x.on(n), want[n]);
        }
        due("15: all", x.on(16), 7);
        due("15: below", x.on(-1), -1);
        due("15: above", x.on(17), -1);
        IceKeys iron = new IceKeys();
        iron.gate(0, 0, 5);
        iron.key(1, 40, 0, 0);
        due("15: till it is over", iron.on(16), 19);
        due("15: nothing is scored", iron.state(2), 0);
        iron.ends(16);
        due("15: till it is over", iron.on(16), 23);
        iron.ends(1);
        due("15: till it is over", iron.on(2), 8);
        iron.halt();
        due("15: over", iron.on(2), 0);
    }

    private static void when() {
        IceKeys x = salt(24);
        due("16: shape 2 never is 0 till it is over", x.when(0), -3);
        x.gate(0, 0, 1);
        due("16: at halt 1 its shape is 1", x.when(0), 1);
        x.halt();
        due("16: from halt 1", x.when(0), 1);
        due("16: a halt is as told", x.halt(), 7);
        due("16: it is now", x.when(0), -3);
        due("16: no such", x.when(1), -1);
        due("16: no such", x.when(-1), -1);
        x.anew();
        x.ends(1);
        x.change(0, 1, 24);
        due("16: over ahead of it", x.when(0), -3);
        x.halt();
        due("16: over", x.when(0), -3);
    }

    private static void strawFor() {
        IceKeys x = salt(5);
        due("17: straw 3 keeps it from melting", x.strawFor(0), 3);
        due("17: straw stays", x.keyOf(0, 2), 0);
        due("17: no such", x.strawFor(1), -1);
        due("17: no such", x.strawFor(-1), -1);
        x.change(0, 2, 9);
        due("17: of several the least", x.strawFor(0), 3);
        due("17: straw stays", x.keyOf(0, 2), 9);
        x.change(0, 1, 0);
        due("17: all alike", x.strawFor(0), 0);
        IceKeys third = new IceKeys();
        third.gate(0, 0, 1);
        third.key(3, 30, 0, 0);
        third.ends(1);
        due("17: a third is shaped by straw", third.strawFor(0), 8);
        third.halt();
        due("17: over", third.strawFor(0), 0);
    }

    private static void gateFor() {
        IceKeys x = new IceKeys();
        x.key(1, 50, 0, 0);
        due("18: none", x.gateFor(0), 0);
        x.gate(3, 0, 5);
        due("18: gate 3", x.gateFor(0), 3);
        due("18: gate stays", x.keyOf(0, 3), 0);
        x.gate(5, 0, 5);
        due("18: of several the least", x.gateFor(0), 3);
        x.gate(5, 0, 5);
        x.gate(3, 0, 0);
        due("18: gate 5", x.gateFor(0), 5);
        due("18: no such", x.gateFor(1), -1);
        due("18: no such", x.gateFor(-1), -1);
        // an iron at the salt's own gate keeps the salt from melting till it is turned
        IceKeys two = salt(5);
        two.key(1, 50, 0, 1);
        two.gate(2, 0, 5);
        due("18: the one that is turned is worth more", two.gateFor(1), 2);
        two.gate(2, 0, 0);
        due("18: by its gate another melts less", two.gateFor(1), 0);
        due("18: by the gate of another it melts less", two.gateFor(0), 1);
    }

    private static void gone() {
        IceKeys x = salt(3);
        due("19: gone", x.gone(0), 3);
        x.ends(3);
        due("19: just as it is over", x.gone(0), 3);
        x.ends(2);
        due("19: over ahead of it", x.gone(0), -3);
        x.halt();
        x.halt();
        due("19: over", x.gone(0), -3);
        x.change(0, 1, 0);
        due("19: now", x.gone(0), 2);
        x.ends(9);
        due("19: now", x.gone(0), 2);
        due("19: no such", x.gone(1), -1);
        due("19: no such", x.gone(-1), -1);
        IceKeys iron = new IceKeys();
        iron.key(1, 1, 0, 0);
        due("19: never", iron.gone(0), -3);
        iron.change(0, 1, 0);
        due("19: now", iron.gone(0), 0);
    }

    private static void opens() {
        IceKeys x = new IceKeys();
        x.key(1, 50, 0, 0);
        x.key(2, 99, 0, 1);
        int[] iron = {32, 32, 32, 32, 112, 112, 112, 112, 248, 248};
        int[] sleeve = {0, 0, 0, 0, 512, 512, 512, 512, 768, 768};
        for (int slack = 0; slack <= 9; slack++) {
            x.gate(0, 1, slack);
            x.gate(1, 1, slack);
            due("20: iron by slack " + slack, x.opens(0), iron[slack]);
            due("20: shape 10 by slack " + slack, x.opens(1), sleeve[slack]);
        }
        x.change(0, 4, 1);
        due("20: turned", x.opens(0), 248);
        x.change(0, 3, 2);
        due("20: by its own gate", x.opens(0), 32);
        x.change(0, 1, 0);
        due("20: no teeth", x.opens(0), 0);
        x.change(1, 1, 9);
        due("20: shape 0 by slack 9", x.opens(1), 7);
        due("20: no such", x.opens(2), -1);
        due("20: no such", x.opens(-1), -1);
    }

    private static void left() {
        IceKeys x = salt(3);
        x.key(1, 40, 0, 1);
        int[] teeth = {43, 42, 41, 40, 40};
        for (int n = 0; n < teeth.length; n++) {
            due("21: teeth by " + n, x.left(n, 0), teeth[n]);
            due("21: turned by " + n, x.left(n, 1), n == 0 ? 0 : 1);
        }
        x.gate(1, 0, 5);
        due("21: both", x.left(2, 1), 3);
        due("21: all", x.left(16, 0), 40);
        x.ends(1);
        due("21: fewer", x.left(16, 0), 42);
        due("21: fewer", x.left(16, 1), 1);
        x.halt();
        due("21: over", x.left(4, 0), 42);
        due("21: n below", x.left(-1, 0), -1);
        due("21: n above", x.left(17, 0), -1);
        due("21: what below", x.left(0, -1), -1);
        due("21: what above", x.left(0, 2), -1);
    }

    private static void bunches() {
        IceKeys x = new IceKeys();
        due("22: none", x.bunches(-1), 0);
        due("22: no key", x.bunches(0), -1);
        x.key(1, 50, 0, 0);
        due("22: alone", x.bunches(-1), 1);
        due("22: alone", x.bunches(0), 1);
        x.key(4, 12, 0, 1);
        x.key(1, 50, 0, 1);
        x.key(4, 24, 0, 2);
        x.key(4, 40, 0, 3);
        x.key(4, 41, 0, 4);
        due("22: by gate, then by shape", x.bunches(0), 7);
        due("22: by gate, then by shape", x.bunches(1), 7);
        due("22: alone", x.bunches(3), 8);
        due("22: by shape", x.bunches(5), 48);
        due("22: three", x.bunches(-1), 3);
        x.change(2, 4, 1);
        due("22: turned", x.bunches(2), 0);
        due("22: no more together", x.bunches(0), 1);
        due("22: no more together", x.bunches(1), 2);
        due("22: four", x.bunches(-1), 4);
        due("22: below", x.bunches(-2), -1);
        due("22: above", x.bunches(6), -1);
        // a chain that hangs together only from its end backwards
        IceKeys chain = new IceKeys();
        int[] gates = {0, 1, 2, 3, 4, 4};
        int[] teeth = {12, 24, 36, 48, 12, 24};
        for (int k = 0; k < 6; k++) {
            chain.key(4, teeth[k], 0, gates[k]);
        }
        due("22: 0, 4, 5, 1", chain.bunches(1), 51);
        due("22: 0, 4, 5, 1", chain.bunches(0), 51);
        due("22: three", chain.bunches(-1), 3);
        // a chain down from the last KEY to the first
        IceKeys down = new IceKeys();
        int[] downTeeth = {12, 24, 24, 36, 36, 48};
        for (int k = 0; k < 6; k++) {
            down.key(4, downTeeth[k], 0, k / 2);
        }
        for (int k = 0; k < 6; k++) {
            due("22: all hang together", down.bunches(k), 63);
        }
        due("22: one", down.bunches(-1), 1);
        down.change(2, 4, 1);
        due("22: two", down.bunches(-1), 2);
        due("22: the upper ones", down.bunches(5), 56);
        due("22: the lower ones", down.bunches(0), 3);
        for (int k = 0; k < 6; k++) {
            chain.change(k, 4, 1);
        }
        due("22: all turned", chain.bunches(-1), 0);
    }

    private static void nothingIsChanged() {
        IceKeys x = Check.five();
        x.halt();
        x.on(16);
        x.when(4);
        x.strawFor(1);
        x.gateFor(1);
        x.gone(1);
        x.opens(1);
        x.left(9, 0);
        x.bunches(-1);
        due("15 to 22: halt", x.state(0), 1);
        due("15 to 22: score", x.state(2), 7);
        due("15 to 22: turned", x.state(4), 1);
        due("15 to 22: teeth", x.state(6), 288);
        due("15 to 22: straw", x.keyOf(1, 2), 6);
        due("15 to 22: gate", x.keyOf(1, 3), 1);
    }
}
