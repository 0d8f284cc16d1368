/** Promises 12 and 13: the tape, the rules. */
public final class RulesTest {
    public static void main(String[] args) {
        feed();
        texts();
        manyRules();
        endsWhereItEnds();
        faultsChangeNothing();
        facts();
        joins();
        kinds();
        Check.end("RulesTest");
    }

    private static void due(String call, long got, long want) {
        Check.due(call, got, want);
    }

    private static void feed() {
        IceKeys x = new IceKeys();
        due("12: n 0", x.feed(1, 0), -1);
        due("12: n 9", x.feed(1, 9), -1);
        due("12: n -1", x.feed(1, -1), -1);
        for (int i = 1; i <= 24; i++) {
            due("12: feed", x.feed(0x2020202020202020L, 8), 8 * i);
        }
        due("12: one more", x.feed(32, 1), 193);
        due("12: too many", x.feed(0x2020202020202020L, 8), -2);
        due("12: bad ahead of full", x.feed(0, 9), -1);
        due("12: it has as many", x.many(5), 193);
        due("12: just as many", x.feed(0x2020202020202020L, 7), 200);
        due("12: full", x.feed(32, 1), -2);
        due("13: blanks alone", x.rules(), 0);
        due("13: used up", x.many(5), 0);
        due("12: feed", x.feed(32, 1), 1);
        // the lowest byte comes first, those above n count nothing
        x.rules();
        due("12: 'iron '", x.feed(0x7878_7820_6E6F_7269L, 5), 5);
        due("12: 'turn;'", x.feed(0x7878_783B_6E72_7574L, 5), 10);
        due("13: bytes in their order", x.rules(), 1);
        // a byte with its highest bit set is no letter, nor any below 32
        x.feed(-1L, 1);
        due("13: byte 255", x.rules(), -100);
    }

    private static void text(String text, int want) {
        IceKeys x = new IceKeys();
        due("13: rules of '" + text + "'", Check.tell(x, text), want);
        due("13: used up", x.many(5), 0);
        due("13: many", x.many(1), Math.max(0, want));
    }

    private static void texts() {
        text("", 0);
        text("   ", 0);
        text("iron turn;", 1);
        text("  iron  turn  ;  ", 1);
        text("iron turn", -109);
        text("iron turn ", -110);
        text("iron", -104);
        text("iron;", -104);
        text("Iron turn;", -100);
        text("irons turn;", -100);
        text("iro turn;", -100);
        text(" irons turn;", -101);
        text("iron turn;;", -110);
        text("ironturn;", -100);
        text("ironz turn;", -100);
        text("azure turn;", -100);
        text("turn carry;", -100);
        text("carry carry;", -100);
        text("halt carry;", -100);
        text("iron carry chill;", -111);
        text("if iron carry;", -100);
        text("iron\tturn;", -104);
        text("iron\0turn;", -104);
        text("iron turn;\n", -110);
        text("iron turn; 5", -111);
        text("iron 5;", -105);
        text("key carry;iron carry;sleeve carry;third carry;salt carry;spare carry;", 6);
        text("iron if teeth<4 turn;", 1);
        text("iron if teeth<4turn;", 1);
        text("iron if4<teeth turn;", 1);
        text("iron if", -107);
        text("iron if turn;", -108);
        text("iron if teeth turn;", -114);
        text("iron if teeth < turn;", -116);
        text("iron if teeth < 12345 turn;", -116);
        text("iron if 12345 < teeth turn;", -108);
        text("iron if 99999999999999999999 < teeth turn;", -108);
        text("iron if teeth < 9999 turn;", 1);
        text("iron if teeth < 0000 turn;", 1);
        text("iron if teeth < 00001 turn;", -116);
        text("iron if (((1<2))) turn;", 1);
        text("iron if ((((1<2)))) turn;", -111);
        text("iron if (((1<2))) and (((1<2))) turn;", 1);
        text("iron if ( ( (1<2) and ( 1<2 ) ) ) turn;", 1);
        text("iron if (1<2 turn;", -113);
        text("iron if 1<2) turn;", -111);
        text("iron if (1<2)) turn;", -113);
        text("iron if () turn;", -109);
        text("iron if (1<2);", -113);
        text("iron if not not not 1<2 turn;", 1);
        text("iron if not ( not 1<2 ) turn;", 1);
        text("iron if not turn;", -112);
        text("iron if notnot 1<2 turn;", -108);
        text("iron if 1<2 not turn;", -112);
        text("iron if 1<2 and turn;", -116);
        text("iron if 1<2 or and 1<2 turn;", -115);
        text("iron if 1<2 or", -114);
        text("iron if 1<2<3 turn;", -111);
        text("iron if 1<=2 turn;", -110);
        text("iron if key<2 turn;", -108);
        text("iron if 1 2 turn;", -110);
        text("iron if 1<2 if 1<2 turn;", -112);
        text("iron if halt=teeth and straw>heat or number<1 turn;", 1);
    }

    private static void manyRules() {
        String eight = "iron turn;".repeat(8);
        text(eight, 8);
        text(eight + "  ", 8);
        text(eight + "iron turn;", -180);
        text(eight + " iron turn;", -181);
        text(eight + "x", -180);
        text(eight + ";", -180);
        text("key if 1<2 carry;".repeat(8), 8);
        // as long as THE TAPE: 200 bytes of one RULE
        String ones = "1<2or".repeat(37);
        text("key if " + ones + "1<2turn;", 1);
    }

    /** What an earlier, longer text has left behind the end must not be read. */
    private static void endsWhereItEnds() {
        IceKeys x = new IceKeys();
        due("13: a name", Check.tell(x, "ironsandmore"), -100);
        due("13: a shorter name", Check.tell(x, "iron"), -104);
        due("13: a number", Check.tell(x, "iron if 1 < 23456789"), -112);
        due("13: a shorter number", Check.tell(x, "iron if 1 < 2"), -113);
        due("13: blanks", Check.tell(x, "iron turn;      "), 1);
        due("13: none behind it", Check.tell(x, "iron turn;"), 1);
        text(" ".repeat(196) + "iron", -300);
        text(" ".repeat(199) + "5", -299);
        text(" ".repeat(199) + "x", -299);
        text(" ".repeat(190) + "iron turn;", 1);
    }

    private static void faultsChangeNothing() {
        IceKeys x = new IceKeys();
        x.key(1, 50, 0, 0);
        due("13: told", Check.tell(x, "iron carry;"), 1);
        due("13: will", x.keyOf(0, 9), 1);
        due("13: fault", Check.tell(x, "iron chill; iron chill; c"), -124);
        due("13: rules stay", x.many(1), 1);
        due("13: will stays", x.keyOf(0, 9), 1);
        // what waited in a text with a FAULT must not come into the next
        String[] broken = {"key if not ", "key if not (", "key if not (not (", "key if 1=2 and ", "key if (1=2 and (1=2 and ",
            "key if 1=2 or ", "key if (1=1 or (1=1 or (1=1 or "};
        for (String b : broken) {
            Check.tell(x, b);
            due("13: told behind '" + b + "'", Check.tell(x, "key if 1=1 chill; key carry;"), 2);
            due("13: holds behind '" + b + "'", x.keyOf(0, 9), 2);
            Check.tell(x, b);
            due("13: told behind '" + b + "'", Check.tell(x, "key if (((1=2))) chill; key carry;"), 2);
            due("13: holds not behind '" + b + "'", x.keyOf(0, 9), 1);
        }
        Check.tell(x, "key if (1=2 and ");
        Check.tell(x, "key if 1=2 or (1=2) chill; key carry;");
        due("13: an and that waited within", x.keyOf(0, 9), 1);
        Check.tell(x, "key if 1=2 chill;");
        Check.tell(x, "key carry;");
        due("13: no condition of the text ahead of it", x.keyOf(0, 9), 1);
        due("13: no text, no rules", x.rules(), 0);
        due("13: none", x.many(1), 0);
        due("13: turn then", x.keyOf(0, 9), 0);
    }

    /** Whether a condition holds for KEY 2 of three, a salt with TEETH 40 and STRAW 6, at HALT 1 with HEAT 3. */
    private static void condition(String cond, boolean holds) {
        IceKeys x = new IceKeys();
        x.key(1, 11, 1, 0);
        x.key(1, 12, 2, 0);
        x.key(4, 41, 6, 1);
        x.gate(1, 0, 9);
        x.sun(0, 7);
        x.sun(1, 14);
        x.halt();
        x.change(2, 1, 40);
        due("13: rule if " + cond, Check.tell(x, "salt if " + cond + " carry;"), 1);
        due("13: holds " + cond, x.keyOf(2, 9), holds ? 1 : 0);
    }

    private static void facts() {
        condition("halt = 1", true);
        condition("halt < 1", false);
        condition("halt > 0", true);
        condition("teeth = 40", true);
        condition("teeth < 41", true);
        condition("teeth < 40", false);
        condition("teeth > 39", true);
        condition("teeth > 40", false);
        condition("straw = 6", true);
        condition("heat = 3", true);
        condition("number = 2", true);
        condition("number > halt", true);
        condition("0040 = teeth", true);
        condition("9999 > teeth", true);
        condition("straw < heat", false);
    }

    private static void joins() {
        condition("1=1 or 1=2 and 1=2", true);
        condition("1=2 and 1=2 or 1=1", true);
        condition("1=1 and 1=2 or 1=2", false);
        condition("(1=1 or 1=1) and 1=2", false);
        condition("not 1=2 and 1=2", false);
        condition("not (1=2 and 1=2)", true);
        condition("not not 1=1", true);
        condition("not not not 1=1", false);
        condition("1=2 or not 1=2", true);
        condition("1=2 or 1=2 or 1=1", true);
        condition("1=1 or 1=2 or 1=2", true);
        condition("1=2 or 1=1 or 1=2", true);
        condition("(1=2 or 1=1) and (1=2)", false);
        condition("(1=1 or 1=1) and (1=2) or (1=2)", false);
        condition("(not 1=1) or (1=1)", true);
        condition("(1=1 and 1=1) and (1=1)", true);
        condition("1=2 or 1=2 or 1=2", false);
        condition("1=1 and 1=1 and 1=2", false);
        condition("1=1 and 1=1 and 1=1", true);
        condition("1=1 or 1=1 and not 1=1", true);
        condition("not 1=1 or 1=2 and 1=1", false);
        condition("1=1 and (1=2 or (1=1 and not (1=2 or 1=2)))", true);
        condition("1=1 and (1=2 or (1=1 and not (1=2 or 1=1)))", false);
        condition("not (1=1 and not (1=1 or not (1=1)))", true);
        condition("1=2 or 1=1 and (1=2 or 1=1 and (1=2 or 1=1))", true);
        condition("1=2 or 1=1 and (1=2 or 1=1 and (1=2 or 1=2))", false);
    }

    /** WILL of one KEY of each KIND 1 to 5 by a text, as digits. */
    private static void kind(String text, int want) {
        IceKeys x = new IceKeys();
        int wills = 0;
        for (int kind = 1; kind <= 5; kind++) {
            x.key(kind, 50, 0, 0);
        }
        Check.tell(x, text);
        for (int k = 0; k < 5; k++) {
            wills = wills * 10 + x.keyOf(k, 9);
        }
        due("13: wills by " + text, wills, want);
    }

    private static void kinds() {
        kind("key carry;", 11111);
        kind("iron carry;", 10000);
        kind("sleeve carry;", 1100);
        kind("third carry;", 100);
        kind("salt carry;", 11);
        kind("spare carry;", 1);
        kind("salt carry; key chill;", 22211);
        kind("key chill; salt carry;", 22222);
        kind("spare turn; salt carry; third chill; sleeve carry;", 1210);
        kind("salt if 1=2 carry; key if number > 2 chill; key if number > 0 carry;", 1122);
        kind("third if number = 2 turn; key carry;", 11011);
        kind("iron if 1=1 or 1=2 carry; key if 1=2 chill;", 10000);
        kind("iron if 1=2 or 1=2 carry; key if 1=1 chill;", 22222);
    }
}
