import java.util.ArrayList;
import java.util.List;

/** All that calls show of an object, as a row of lines; the object is used up by it. Fewer than 400 calls. */
final class Look {
    private final IceKeys x;
    private final List<String> seen = new ArrayList<>();

    private Look(IceKeys x) {
        this.x = x;
    }

    static List<String> at(IceKeys x) {
        Look look = new Look(x);
        look.host();
        look.fort("now");
        look.strangers("now");
        // what rich() has on THE TAPE is a whole text then
        look.see("THE TAPE, 3 more", Check.feed(x, "ry;"));
        look.see("THE TAPE", x.rules());
        look.wills("by THE TAPE");
        look.see("kept", x.again());
        look.fort("kept");
        look.strangers("kept");
        return look.seen;
    }

    /** Whether as much is seen of one object as of the other, and the same. Both are used up. */
    static void same(String name, IceKeys got, IceKeys want) {
        List<String> is = at(got);
        List<String> was = at(want);
        Check.due(name + ": as much is seen", is.size(), was.size());
        for (int i = 0; i < Math.min(is.size(), was.size()); i++) {
            if (!is.get(i).equals(was.get(i))) {
                Check.holds(name + " changed " + was.get(i) + " to " + is.get(i), false);
                return;
            }
        }
    }

    private void see(String what, int answer) {
        seen.add(what + ": " + answer);
    }

    private void host() {
        for (int what = 0; what <= 6; what++) {
            see("many(" + what + ")", x.many(what));
        }
        int rows = x.many(4);
        for (int k = 0; k < rows; k++) {
            for (int what = 0; what <= 2; what++) {
                see("row(" + k + ", " + what + ")", x.row(k, what));
            }
        }
        int bodies = x.many(6);
        for (int i = 0; i < bodies; i++) {
            see("trace(" + i + ")", x.trace(i));
        }
        for (int sheet = 0; sheet <= 3; sheet++) {
            items(sheet);
        }
        for (int shelf = 0; shelf <= 3; shelf++) {
            for (int as = 0; as <= 14; as++) {
                if (as <= 5 || as >= 10) {
                    see("taken(" + shelf + ", " + as + ")", x.taken(shelf, as));
                }
            }
        }
    }

    /** Items up to the first that is outside; no item that a test writes is as low as that. */
    private void items(int sheet) {
        for (int sort = 0; sort <= 4; sort++) {
            int answer = x.item(sheet, sort, 0);
            see("item(" + sheet + ", " + sort + ", 0)", answer);
            for (int i = 1; i < 7 && answer > -11; i++) {
                answer = x.item(sheet, sort, i);
                see("item(" + sheet + ", " + sort + ", " + i + ")", answer);
            }
        }
    }

    private void fort(String when) {
        for (int what = 0; what <= 6; what++) {
            see(when + " state(" + what + ")", x.state(what));
        }
        int keys = x.many(0);
        for (int k = 0; k < keys; k++) {
            for (int what = 0; what <= 4; what++) {
                see(when + " keyOf(" + k + ", " + what + ")", x.keyOf(k, what));
            }
        }
        wills(when);
        for (int f = 0; f <= 5; f++) {
            see(when + " WARD " + f, x.gateOf(f, 0));
            see(when + " SLACK " + f, x.gateOf(f, 1));
        }
    }

    private void wills(String when) {
        see(when + " RULES", x.many(1));
        int keys = x.many(0);
        for (int k = 0; k < keys; k++) {
            see(when + " WILL " + k, x.keyOf(k, 9));
        }
    }

    /** SUNS and z can be seen only by being changed, so LONE KEYS come first. */
    private void strangers(String when) {
        see(when + " REPORTS", x.many(3));
        for (int what = 0; what <= 3; what++) {
            see(when + " lone(" + what + ")", x.lone(what));
        }
        see(when + " liar", x.liar());
        for (int h = 0; h <= 15; h++) {
            see(when + " SUN " + h, x.sun(h, 5));
        }
        see(when + " z", x.seed(1));
    }
}
