/**
 * The bounds that section 2 of the document's terms (THE RULES) and promises 12 and 13 name: a test for each sentence,
 * which stands above it.
 */
public final class RulesBoundsTest {
    public static void main(String[] args) {
        tape();
        rulesOfAText();
        kindWords();
        doWords();
        conditions();
        ones();
        values();
        signs();
        numbers();
        facts();
        names();
        digits();
        blanks();
        open();
        faults();
        faultsOfBounds();
        faultsAtTheEnd();
        feed();
        rules();
        Check.end("RulesBoundsTest");
    }

    private static void due(String call, long got, long want) {
        Check.due(call, got, want);
    }

    private static void text(String text, int want) {
        due("T2: rules of '" + text + "'", Check.tell(new IceKeys(), text), want);
    }

    private static void fault(String text, int place) {
        text(text, -100 - place);
    }

    /** WILL of an iron by a text: 0 turn, 1 carry, 2 chill. */
    private static void will(String text, int want) {
        IceKeys x = new IceKeys();
        x.key(1, 50, 0, 0);
        due("T2: told '" + text + "'", Check.tell(x, text) > 0 ? 1 : 0, 1);
        due("T2: WILL by '" + text + "'", x.keyOf(0, 9), want);
    }

    private static void holds(String cond, boolean is) {
        will("key if " + cond + " chill; key carry;", is ? 2 : 1);
    }

    // DOC T2: THE RULES are a TEXT. THE TAPE takes bytes, 200 at most; rules() uses it up.
    private static void tape() {
        IceKeys x = new IceKeys();
        due("T2: no bytes at first", x.many(5), 0);
        for (int i = 1; i <= 25; i++) {
            due("T2: bytes", x.feed(0x2020202020202020L, 8), 8 * i);
        }
        due("T2: the 201st", x.feed(32, 1), -2);
        due("T2: 200", x.many(5), 200);
        due("T2: told", x.rules(), 0);
        due("T2: used up", x.many(5), 0);
        due("T2: room again", x.feed(32, 1), 1);
        x.feed('x', 1);
        due("T2: a FAULT", x.rules(), -101);
        due("T2: used up by a FAULT, too", x.many(5), 0);
        due("T2: nothing on THE TAPE", x.rules(), 0);
        // all of 200 bytes are read, the last one, too
        text(" ".repeat(190) + "iron turn;", 1);
        fault(" ".repeat(190) + "iron turns", 195);
        fault("iron turn;" + " ".repeat(189) + ";", 199);
    }

    // DOC T2: TEXT: { KIND DO ; | KIND if COND DO ; }, 8 RULES at most.
    private static void rulesOfAText() {
        StringBuilder plain = new StringBuilder();
        StringBuilder ifs = new StringBuilder();
        for (int count = 0; count <= 8; count++) {
            text(plain.toString(), count);
            text(ifs.toString(), count);
            fault(plain + ";", plain.length());
            plain.append("iron chill;");
            ifs.append("key if 1<2 carry;");
        }
        fault(plain.toString(), 88);
        fault(ifs.toString(), 136);
        fault("iron;", 4);
        fault("turn;", 0);
        fault("iron turn turn;", 10);
        fault("iron if 1<2;", 11);
        fault("iron if 1<2 turn carry;", 17);
        fault("iron iron turn;", 5);
        // the eighth RULE tells as well
        will("salt carry;".repeat(7) + "iron chill;", 2);
        will("iron if 1>2 carry;".repeat(7) + "iron chill;", 2);
    }

    // DOC T2: KIND: key | iron | sleeve | third | salt | spare.
    private static void kindWords() {
        String[] words = {"key", "iron", "sleeve", "third", "salt", "spare"};
        for (int kind = 0; kind <= 5; kind++) {
            IceKeys x = new IceKeys();
            x.key(Math.max(1, kind), 50, 0, 0);
            due("T2: " + words[kind], Check.tell(x, words[kind] + " chill;"), 1);
            due("T2: it tells", x.keyOf(0, 9), 2);
            fault(words[kind] + "s chill;", 0);
            fault(words[kind].substring(1) + " chill;", 0);
            fault(words[kind].substring(0, words[kind].length() - 1) + " chill;", 0);
        }
        for (String other : new String[] {"if", "not", "and", "or", "halt", "teeth", "straw", "heat", "number", "turn",
            "carry", "chill", "7", "(", ")", "<", "=", ">", ";", "Iron", "IRON"}) {
            fault(other + " chill;", 0);
        }
    }

    // DOC T2: DO: turn | carry | chill.
    private static void doWords() {
        will("iron turn;", 0);
        will("iron carry;", 1);
        will("iron chill;", 2);
        will("iron if 1<2 turn; key chill;", 0);
        will("iron if 1<2 carry;", 1);
        will("iron if 1<2 chill;", 2);
        for (String other : new String[] {"turns", "carr", "chil", "tur", "key", "not", "and", "or", "halt", "number", "7",
            "(", ")", "<", "=", ">", ";", "Turn"}) {
            fault("iron " + other + ";", 5);
        }
    }

    // DOC T2: COND: ALL { or ALL } ALL: ONE { and ONE }
    private static void conditions() {
        String yes = "1<2";
        String no = "2<1";
        for (int bits = 0; bits < 8; bits++) {
            boolean a = (bits & 1) == 1;
            boolean b = (bits & 2) == 2;
            boolean c = (bits & 4) == 4;
            String x = a ? yes : no;
            String y = b ? yes : no;
            String z = c ? yes : no;
            holds(x, a);
            holds(x + " and " + y, a && b);
            holds(x + " or " + y, a || b);
            holds(x + " or " + y + " and " + z, a || b && c);
            holds(x + " and " + y + " or " + z, a && b || c);
            holds(x + " or " + y + " or " + z, a || b || c);
            holds(x + " and " + y + " and " + z, a && b && c);
            holds("(" + x + " or " + y + ") and " + z, (a || b) && c);
            holds(x + " and (" + y + " or " + z + ")", a && (b || c));
            holds("(" + x + " or " + y + ") and (" + z + ")", (a || b) && c);
            holds("(" + x + " or " + y + ") or (" + z + ")", a || b || c);
            holds("(" + x + " and " + y + ") or (" + z + ")", a && b || c);
            holds("(" + x + " and " + y + ") and (" + z + ")", a && b && c);
            holds("(" + x + ") and (" + y + ") or not (" + z + ")", a && b || !c);
        }
        fault("iron if or 1<2 turn;", 8);
        fault("iron if and 1<2 turn;", 8);
        fault("iron if 1<2 or or 1<2 turn;", 15);
        fault("iron if 1<2 and and 1<2 turn;", 16);
        fault("iron if 1<2 or turn;", 15);
        fault("iron if 1<2 and turn;", 16);
        fault("iron if 1<2 1<2 turn;", 12);
        fault("iron if 1<2 not 1<2 turn;", 12);
    }

    // DOC T2: ONE: { not } ( VALUE SIGN VALUE | "(" COND ")" )
    private static void ones() {
        StringBuilder nots = new StringBuilder();
        for (int many = 0; many <= 9; many++) {
            holds(nots + "1<2", many % 2 == 0);
            holds(nots + "(2<1)", many % 2 == 1);
            nots.append("not ");
        }
        // a not goes with one ONE alone
        holds("not 1<2 or 1<2", true);
        holds("not 2<1 and 2<1", false);
        holds("not (2<1) and 2<1", false);
        holds("not (2<1 and 2<1)", true);
        holds("(not 1<2) or 1<2", true);
        fault("iron if not not turn;", 16);
        fault("iron if not and 1<2 turn;", 12);
        fault("iron if () turn;", 9);
        fault("iron if (1<2 turn;", 13);
        fault("iron if (1) turn;", 10);
        fault("iron if (1<) turn;", 11);
        fault("iron if 1<(2) turn;", 10);
        fault("iron if (1)<2 turn;", 10);
        fault("iron if ) turn;", 8);
        fault("iron if 1<2 ) turn;", 12);
    }

    // DOC T2: VALUE: N | halt | teeth | straw | heat | number
    private static void values() {
        for (String value : new String[] {"0", "halt", "teeth", "straw", "heat", "number"}) {
            text("iron if " + value + " < 5 turn;", 1);
            text("iron if 5 < " + value + " turn;", 1);
            fault("iron if " + value + "x < 5 turn;", value.equals("0") ? 9 : 8);
        }
        for (String other : new String[] {"shade", "key", "turn", "if", "gate", "ward", "<", "=", ";", "-1"}) {
            fault("iron if " + other + " < 5 turn;", 8);
            fault("iron if 5 < " + other + " turn;", 12);
        }
    }

    // DOC T2: SIGN: < | = | >
    private static void signs() {
        int[][] pairs = {{4, 5}, {5, 5}, {6, 5}, {0, 9999}, {9999, 0}};
        for (int[] p : pairs) {
            holds(p[0] + "<" + p[1], p[0] < p[1]);
            holds(p[0] + "=" + p[1], p[0] == p[1]);
            holds(p[0] + ">" + p[1], p[0] > p[1]);
        }
        for (String other : new String[] {"<=", "<>", "==", ">="}) {
            fault("iron if 1" + other + "2 turn;", 10);
        }
        for (String other : new String[] {"!", ":", ";", "(", ")", " turn"}) {
            fault("iron if 1" + other + "2 turn;", other.startsWith(" ") ? 10 : 9);
        }
    }

    // DOC T2: N are NUMBERS 0 to 9999.
    private static void numbers() {
        holds("0 = 0000", true);
        holds("0 < 1", true);
        holds("9999 > 9998", true);
        holds("9999 = 9999", true);
        holds("0009 = 9", true);
        holds("0010 = 10", true);
        holds("1000 > 999", true);
        text("iron if 9999 = 9999 turn;", 1);
        fault("iron if 10000 = 9999 turn;", 8);
        fault("iron if 9999 = 10000 turn;", 15);
        fault("iron if -1 = 0 turn;", 8);
    }

    // DOC T2: FACTS: the HALT that goes by; its TEETH, its STRAW, the HEAT of that HALT; its number.
    private static void facts() {
        fact("halt", 0, 0);
        fact("halt", 15, 15);
        fact("halt", 16, 16);
        for (int v : new int[] {0, 1, 99}) {
            fact("teeth", 0, v);
        }
        for (int v : new int[] {0, 1, 9}) {
            fact("straw", 0, v);
        }
        for (int v = 0; v <= 3; v++) {
            fact("heat", 0, v);
            fact("heat", 15, v);
        }
        fact("heat", 16, 0);
        // numbers of KEYS
        IceKeys x = new IceKeys();
        for (int k = 0; k < 6; k++) {
            x.key(1, 50, 0, 0);
        }
        for (int k = 0; k < 6; k++) {
            Check.tell(x, "key if number = " + k + " chill; key carry;");
            for (int other = 0; other < 6; other++) {
                due("T2: number " + k + " of KEY " + other, x.keyOf(other, 9), other == k ? 2 : 1);
            }
        }
        // FACTS on both sides, of the KEY itself: TEETH and STRAW of KEY 1, not of KEY 0
        IceKeys y = new IceKeys();
        y.key(1, 10, 3, 0);
        y.key(1, 4, 4, 0);
        Check.tell(y, "key if teeth = straw chill; key carry;");
        due("T2: of KEY 0", y.keyOf(0, 9), 1);
        due("T2: of KEY 1", y.keyOf(1, 9), 2);
        // the HALT that goes by: each time it is the next
        IceKeys z = new IceKeys();
        z.gate(0, 0, 5);
        z.key(1, 50, 0, 0);
        Check.tell(z, "key if halt < 2 carry;");
        due("T2: the first HALT behind which it is TURNED", z.when(0), 2);
        Check.tell(z, "key if halt > 0 carry;");
        due("T2: HALT 0", z.when(0), 0);
    }

    /** A FACT of KEY 0 at a HALT is this value: equal to it, and neither below nor above. */
    private static void fact(String name, int halt, int value) {
        IceKeys x = new IceKeys();
        x.ends(16);
        for (int h = 0; h < halt; h++) {
            x.halt();
        }
        x.key(1, name.equals("teeth") ? value : 50, name.equals("straw") ? value : 5, 0);
        if (name.equals("heat")) {
            x.sun(Math.min(15, halt), 4 * value + 3);
        }
        String[] signs = {" < ", " = ", " > "};
        for (int i = 0; i < 3; i++) {
            Check.tell(x, "key if " + name + signs[i] + value + " chill; key carry;");
            due("T2: " + name + signs[i] + value, x.keyOf(0, 9), i == 1 ? 2 : 1);
            Check.tell(x, "key if " + value + signs[i] + name + " chill; key carry;");
            due("T2: " + value + signs[i] + name, x.keyOf(0, 9), i == 1 ? 2 : 1);
        }
    }

    // DOC T2: NAMES are rows of letters a to z,
    private static void names() {
        for (int b = 0; b <= 255; b++) {
            boolean letter = b >= 'a' && b <= 'z';
            // a letter makes one NAME of both; all others (but the blank) can't stand behind a KIND
            fault("iron" + (char) b + "turn", b == ' ' ? 9 : letter ? 0 : 4);
            fault((char) b + "iron", b == ' ' ? 5 : 0);
        }
        // those next to a and z
        fault("`iron turn;", 0);
        fault("{iron turn;", 0);
        fault("iron turn{;", 9);
        fault("iron turn`;", 9);
        fault("irona turn;", 0);
        fault("ironz turn;", 0);
        fault("iroN turn;", 0);
    }

    // DOC T2: NUMBERS rows of digits (1 to 4), both as long as they go;
    private static void digits() {
        for (int b = 0; b <= 255; b++) {
            boolean digit = b >= '0' && b <= '9';
            boolean sign = b == '<' || b == '=' || b == '>';
            String text = "iron if 1" + (char) b + "2 turn;";
            text(text, sign ? 1 : digit ? -112 : b == ' ' ? -110 : -109);
        }
        String nines = "";
        for (int many = 1; many <= 8; many++) {
            nines += "9";
            text("iron if " + nines + " < 5 turn;", many <= 4 ? 1 : -108);
            text("iron if 5 < " + nines + " turn;", many <= 4 ? 1 : -112);
            text("iron if " + "0".repeat(many) + " < 5 turn;", many <= 4 ? 1 : -108);
        }
        text("iron if " + "1".repeat(180) + "<", -108);
        // so many digits that an int wraps to a small value
        text("iron if 4294967296 < 5 turn;", -108);
        fault("iron if 1 234 < 5 turn;", 10);
        fault("iron if 12 34 < 5 turn;", 11);
        fault("iro n turn;", 0);
    }

    // DOC T2: blanks (32) part them, and stand elsewhere as one likes.
    private static void blanks() {
        text("  iron   if   not   (   teeth   <   4   )   and   1   =   2   turn   ;   ", 1);
        text("iron if not(teeth<4)and 1=2turn;", 1);
        text("iron turn;iron turn;", 2);
        text("iron turn ; iron turn ;", 2);
        text(" ", 0);
        fault("ironif 1<2 turn;", 0);
        fault("iron ifnot 1<2 turn;", 5);
        fault("iron if 1<2 and1<2 or2<1 x;", 25);
        for (char other : new char[] {0, 9, 10, 13, 31, 33, 127, 160, 255}) {
            fault("iron" + other + "turn;", 4);
            fault("iron turn;" + other, 10);
            fault(other + "iron turn;", 0);
        }
    }

    // DOC T2: At most 3 "(" are open within one another.
    private static void open() {
        text("iron if (1<2) turn;", 1);
        text("iron if ((1<2)) turn;", 1);
        text("iron if (((1<2))) turn;", 1);
        fault("iron if ((((1<2)))) turn;", 11);
        fault("iron if not(not(not(not(1<2)))) turn;", 23);
        fault("iron if ( ( (1<2) or ( (1<2) ) ) ) turn;", 23);
        // as many as one likes, one behind the other
        text("iron if (1<2) and (1<2) and (1<2) and (1<2) and (1<2) turn;", 1);
        text("iron if (((1<2) or (1<2)) and ((1<2))) or (((1<2))) turn;", 1);
        // in each RULE anew
        text("iron if (((1<2))) turn; iron if (((1<2))) turn;", 2);
        fault("iron if (((1<2))) turn; iron if ((((1<2)))) turn;", 35);
        // all that were opened must be closed
        fault("iron if (((1<2)) turn;", 17);
        fault("iron if (((1<2)))) turn;", 17);
        holds("not (1<2 and not (1<2 and not (1<2)))", false);
        holds("not (1<2 and not (1<2 and not (2<1)))", true);
        holds("(2<1 or (2<1 or (1<2 and 2<1)) or 1<2)", true);
    }

    // DOC T2: FAULT: the place (from 0) of the first byte of the first NAME, NUMBER or other byte that can't stand there
    private static void faults() {
        fault("x", 0);
        fault("   x", 3);
        fault("iron xyz;", 5);
        fault("iron   5;", 7);
        fault("iron turn; x y z", 11);
        fault("iron if teeth xyz 4 turn;", 14);
        fault("iron if teeth < xyz turn;", 16);
        fault("iron if teeth < 4 xyz turn;", 18);
        fault("iron if teeth < 4 turn xyz;", 23);
        fault("iron turn;;", 10);
        fault("iron turn; key turn", 19);
        // the first of several
        fault("xx yy", 0);
        fault("iron 5 turn x", 5);
    }

    // DOC T2: (a NUMBER of more digits, the fourth "(", the first NAME of the ninth RULE, too),
    private static void faultsOfBounds() {
        fault("iron if teeth < 12345 turn;", 16);
        fault("iron if 12345 xyz", 8);
        fault("iron if teeth < 4 and 00000 < 1 turn;", 22);
        fault("iron if ((( (1<2)))) turn;", 12);
        fault("iron if (((not(1<2)))) turn;", 14);
        String eight = "iron turn;".repeat(8);
        text(eight, 8);
        text(eight + "   ", 8);
        fault(eight + "iron turn;", 80);
        fault(eight + "   iron turn;", 83);
        fault(eight + "iron", 80);
        fault(eight + "x", 80);
        // a FAULT ahead of the ninth RULE is first
        fault("irn turn;" + "iron turn;".repeat(8), 0);
        fault("iron turn;".repeat(7) + "iron trn;" + "iron turn;", 75);
    }

    // DOC T2: or the end (how many bytes there are), if more must come.
    private static void faultsAtTheEnd() {
        String[] pieces = {"iron", "if", "not", "(", "teeth", "<", "4", "and", "1", "=", "2", "or", "straw", ">", "heat", ")",
            "turn"};
        StringBuilder text = new StringBuilder();
        for (String piece : pieces) {
            text.append(piece);
            fault(text.toString(), text.length());
            text.append(' ');
            fault(text.toString(), text.length());
        }
        text(text + ";", 1);
        text("", 0);
        fault("iron turn; iron", 15);
        fault(" ".repeat(196) + "iron", 200);
        fault("iron" + " ".repeat(196), 200);
        fault(" ".repeat(191) + "iron turn", 200);
        // what an earlier, longer text left behind the end isn't there any more
        IceKeys x = new IceKeys();
        Check.tell(x, "iron turn;");
        due("T2: the end of a shorter text", Check.tell(x, "iron tur"), -105);
        due("T2: the end of a shorter text", Check.tell(x, "iron turn"), -109);
        Check.tell(x, "iron if 1 < 23456789");
        due("T2: the end of a shorter NUMBER", Check.tell(x, "iron if 1 < 2"), -113);
        Check.tell(x, "ironsandmore");
        due("T2: the end of a shorter NAME", Check.tell(x, "iron"), -104);
        Check.tell(x, "          ");
        due("T2: no blanks behind it", Check.tell(x, "iron"), -104);
        // at the end of 200 bytes there is nothing more to look at
        fault(" ".repeat(199) + "5", 199);
        fault(" ".repeat(199) + "k", 199);
        fault(" ".repeat(192) + "iron if5", 200);
    }

    // DOC 12: n bytes (1 to 8) come to THE TAPE, the lowest of eight first: how many it has. BAD; FULL: more than 200.
    private static void feed() {
        Check.edges("12: n", 1, 8, -1, n -> new IceKeys().feed(0, n));
        for (int n = 1; n <= 8; n++) {
            IceKeys x = new IceKeys();
            due("12: how many", x.feed(0x2020202020202020L, n), n);
            due("12: how many", x.many(5), n);
            due("12: blanks", x.rules(), 0);
            fillTo(x, 200 - n);
            due("12: just 200", x.feed(0x2020202020202020L, n), 200);
            x.rules();
            fillTo(x, 201 - n);
            due("12: 201", x.feed(0x2020202020202020L, n), -2);
            due("12: none of them came", x.many(5), 201 - n);
            due("12: BAD ahead of FULL", x.feed(0, 9), -1);
            due("12: BAD ahead of FULL", x.feed(0, 0), -1);
        }
        // the lowest first, and no more than n; the eighth is the highest, whose sign doesn't count
        IceKeys x = new IceKeys();
        due("12: 'iron tur'", x.feed(0x7275_7420_6E6F_7269L, 8), 8);
        due("12: 'n;', and others that don't come", x.feed(0x7878_7878_7878_3B6EL, 2), 10);
        due("12: read in that order", x.rules(), 1);
        x.feed(0xFF20_2020_2020_2020L, 8);
        due("12: the eighth is 255", x.rules(), -107);
        x.feed(0x8020_2020_2020_2020L, 8);
        due("12: the eighth is 128", x.rules(), -107);
        x.feed(0x8020_2020_2020_2020L, 7);
        due("12: the eighth doesn't come", x.rules(), 0);
        // bytes come behind those that are there
        x.feed('k', 1);
        x.feed('e', 1);
        x.feed('y', 1);
        due("12: 'key'", x.rules(), -103);
    }

    private static void fillTo(IceKeys x, int size) {
        for (int has = 0; has < size; has += 8) {
            x.feed(0x2020202020202020L, Math.min(8, size - has));
        }
    }

    // DOC 13: THE TAPE tells THE RULES (in place of all): how many; -100 less its FAULT.
    private static void rules() {
        IceKeys x = new IceKeys();
        x.key(1, 50, 0, 0);
        due("13: nothing told", x.rules(), 0);
        due("13: two", Check.tell(x, "iron carry; key chill;"), 2);
        due("13: WILL", x.keyOf(0, 9), 1);
        due("13: in place of all", Check.tell(x, "key chill;"), 1);
        due("13: how many", x.many(1), 1);
        due("13: WILL", x.keyOf(0, 9), 2);
        due("13: FAULT 0", Check.tell(x, "x"), -100);
        due("13: FAULT 22, behind two whole RULES", Check.tell(x, "iron carry; key carry;x"), -122);
        due("13: RULES are as they were", x.many(1), 1);
        due("13: WILL is as it was", x.keyOf(0, 9), 2);
        due("13: FAULT at the end of 200", Check.tell(x, " ".repeat(196) + "iron"), -300);
        due("13: RULES are as they were", x.many(1), 1);
        due("13: none any more", Check.tell(x, ""), 0);
        due("13: no RULES", x.many(1), 0);
        due("13: WILL", x.keyOf(0, 9), 0);
        due("13: eight", Check.tell(x, "iron if 1>2 chill;".repeat(7) + "key carry;"), 8);
        due("13: the eighth tells", x.keyOf(0, 9), 1);
        due("13: fewer again", Check.tell(x, "salt chill;"), 1);
        due("13: none of the eight any more", x.keyOf(0, 9), 0);
        afterAnother();
    }

    /** Nothing of a text, with a FAULT or without, comes into the next. */
    private static void afterAnother() {
        String[] ahead = {"key if 2<1 chill;", "key if 1<2 chill; key if 2<1 or 1<2 carry;", "key if not ", "key if not (", "key if (",
            "key if ((( ", "key if not (not (not (", "key if 2<1 and ", "key if (2<1 and (2<1 and (2<1 and ", "key if 1<2 or ",
            "key if (1<2 or (1<2 or (1<2 or ", "key if (1<2", "key if 1", "key if 1<"};
        String[] next = {"key chill;", "key if 1<2 chill; key carry;", "key if (((1<2))) chill; key carry;",
            "key if 2<1 chill; key if 1<2 chill;", "key if 2<1 carry; key chill;", "key if (((2<1))) carry; key chill;",
            "key if 2<1 or (2<1 or (2<1 or (2<1))) carry; key chill;", "key if not (1<2) carry; key chill;"};
        for (String first : ahead) {
            IceKeys x = new IceKeys();
            x.key(1, 50, 0, 0);
            for (String second : next) {
                Check.tell(x, first);
                due("13: '" + second + "' behind '" + first + "'", Check.tell(x, second) > 0 ? 1 : 0, 1);
                due("13: WILL by '" + second + "' behind '" + first + "'", x.keyOf(0, 9), 2);
            }
        }
        // as often as one likes
        IceKeys x = new IceKeys();
        x.key(1, 50, 0, 0);
        String longest = "key if " + "2<1or ".repeat(30) + "1<2chill;";
        for (int i = 0; i < 9; i++) {
            due("13: a long text", Check.tell(x, longest), 1);
            due("13: its WILL", x.keyOf(0, 9), 2);
        }
    }
}
