import java.lang.reflect.Method;
import java.util.ArrayList;
import java.util.Comparator;
import java.util.List;
import java.util.Random;

/**
 * Runs of calls by chance (seeds are fixed), each answer held against the Model's. Ahead of each run some KEYS,
 * GATES and SUNS are set so that there is something to melt and turn; and at its end the whole state is looked at.
 */
public final class ModelTest {
    private static final int RUNS = 400, CALLS = 480;
    private final IceKeys x = new IceKeys();
    private final Model m = new Model();
    private final Random by;
    private final List<String> told = new ArrayList<>();
    private boolean isWrong = false;

    private ModelTest(long seed) {
        by = new Random(seed);
    }

    public static void main(String[] args) throws ReflectiveOperationException {
        int from = args.length > 0 ? Integer.parseInt(args[0]) : 0;
        int to = args.length > 1 ? Integer.parseInt(args[1]) : RUNS;
        for (int seed = from; seed < to; seed++) {
            ModelTest run = new ModelTest(seed);
            run.go();
            Check.holds("run by seed " + seed, !run.isWrong);
            if (run.isWrong) {
                run.tellLast();
                break;
            }
        }
        Check.end("ModelTest");
    }

    private void tellLast() {
        for (String line : told) {
            System.out.println("  " + line);
        }
    }

    private void go() throws ReflectiveOperationException {
        setUp();
        List<Method> face = new ArrayList<>();
        for (Method method : IceKeys.class.getDeclaredMethods()) {
            if (java.lang.reflect.Modifier.isPublic(method.getModifiers())) {
                face.add(method);
            }
        }
        // getDeclaredMethods has no order of its own
        face.sort(Comparator.comparing(Method::getName));
        for (int i = 0; i < CALLS && !isWrong; i++) {
            switch (by.nextInt(60)) {
                case 0: case 1: text(); break;
                case 2: acts(); break;
                case 3: items(); break;
                case 4: strangers(); break;
                case 5: rows(); break;
                default: chance(face.get(by.nextInt(face.size())));
            }
        }
        lookAround();
    }

    private void call(String name, int... args) throws ReflectiveOperationException {
        Class<?>[] types = new Class<?>[args.length];
        Object[] values = new Object[args.length];
        for (int i = 0; i < args.length; i++) {
            types[i] = int.class;
            values[i] = args[i];
        }
        call(name, types, values);
    }

    private void call(String name, Class<?>[] types, Object[] values) throws ReflectiveOperationException {
        if (isWrong) {
            return;
        }
        int got = (Integer) IceKeys.class.getDeclaredMethod(name, types).invoke(x, values);
        int want = (Integer) Model.class.getDeclaredMethod(name, types).invoke(m, values);
        String line = name + java.util.Arrays.toString(values) + " answered " + got;
        if (got != want) {
            isWrong = true;
            line += ", the model says " + want;
        }
        told.add(line);
    }

    private void setUp() throws ReflectiveOperationException {
        int keys = by.nextInt(7);
        int gates = 1 + by.nextInt(6);
        for (int f = 0; f < gates; f++) {
            call("gate", f, 0, by.nextInt(10));
            call("gate", f, 1, by.nextInt(10));
        }
        for (int h = 0; h < 16; h++) {
            call("sun", h, by.nextInt(16));
        }
        for (int k = 0; k < keys; k++) {
            call("key", 1 + by.nextInt(5), by.nextInt(100), by.nextInt(10), by.nextInt(gates));
        }
        if (by.nextBoolean()) {
            text();
        }
    }

    private void lookAround() throws ReflectiveOperationException {
        for (int what = 0; what <= 6; what++) {
            call("many", what);
            call("state", what);
            call("trace", what);
        }
        for (int k = 0; k < 6; k++) {
            for (int what = 0; what <= 9; what++) {
                call("keyOf", k, what);
            }
            call("gateOf", k, 0);
            call("gateOf", k, 1);
            call("row", k, by.nextInt(3));
        }
        call("seed", 1);
        call("on", 16);
        call("best", 3);
        call("lone", 0);
    }

    /** A KEY on a SHELF, an act() of it, and THE TRACE. */
    private void acts() throws ReflectiveOperationException {
        call("shelf", 0, 0, by.nextInt(6));
        call("taken", 0, by.nextInt(6));
        call("act", 0, by.nextInt(4), by.nextInt(4) == 0 ? by.nextInt() : by.nextInt(100) - 50);
        call("many", 6);
        for (int i = 0; i < 12; i++) {
            call("trace", i);
        }
    }

    /** A SHEET of bytes, most of them ACTS, and what comes of it. */
    private void items() throws ReflectiveOperationException {
        int n = by.nextInt(9);
        call("sheet", 0, 0, n);
        for (int i = 0; i < n; i++) {
            call("write", 0, i, by.nextInt(9) == 0 ? by.nextInt(1000) - 500 : by.nextInt(5));
            call("item", 0, 0, i);
        }
        int from = by.nextInt(3);
        int many = by.nextInt(7);
        call("wouldBe", 0, from, many);
        call("goAll", 0, from, many);
        call("state", 2);
        call("shelf", 1, 1, 0);
        call("taken", 1, 10);
        int sort = by.nextInt(5);
        call("sheet", 1, sort, 3);
        call("write", 1, 2, by.nextInt());
        call("item", 1, sort, 2);
        call("taken", 1, 10);
    }

    /** REPORTS wide enough that a few FIT, or that all but one would. */
    private void strangers() throws ReflectiveOperationException {
        call("forget");
        for (int r = by.nextInt(7); r > 0; r--) {
            boolean ofTeeth = by.nextBoolean();
            int most = ofTeeth ? 99 : 9;
            int least = by.nextInt(most + 1) / (1 + by.nextInt(9));
            call("report", by.nextInt(16), ofTeeth ? 0 : 1, least, Math.min(most, least + by.nextInt(most + 1) / 2));
        }
        for (int what = 0; what <= 3; what++) {
            call("lone", what);
        }
        call("liar");
    }

    private void rows() throws ReflectiveOperationException {
        call("prove", 1 + by.nextInt(4));
        call("judge");
        int k = by.nextInt(4);
        for (int what = 0; what <= 2; what++) {
            call("row", k, what);
        }
        call("alterRow", k, by.nextInt(3), by.nextInt(8));
        call("judge");
    }

    /** A call with arguments that mostly are as told, sometimes at or beyond an edge. */
    private void chance(Method method) throws ReflectiveOperationException {
        String name = method.getName();
        if (name.equals("again") && by.nextInt(3) > 0 || name.equals("feed") && by.nextInt(4) > 0
            || name.equals("anew") && by.nextInt(3) > 0) {
            return;
        }
        if (name.equals("change") && by.nextInt(4) > 0) {
            int what = 1 + by.nextInt(4);
            call("change", by.nextInt(6), what, by.nextInt(new int[] {1, 101, 11, 7, 3}[what]));
            return;
        }
        if ((name.equals("order") || name.equals("bars")) && by.nextInt(3) > 0) {
            call(name, by.nextInt(5), 1 << by.nextInt(3) | 1 << by.nextInt(3));
            return;
        }
        Class<?>[] types = method.getParameterTypes();
        Object[] values = new Object[types.length];
        for (int i = 0; i < types.length; i++) {
            values[i] = types[i] == long.class ? (Object) by.nextLong() : (Object) argument(name, i);
        }
        call(name, types, values);
    }

    private int argument(String name, int i) {
        int wild = by.nextInt(40);
        if (wild == 0) {
            return by.nextInt();
        }
        if (wild == 1) {
            return by.nextBoolean() ? Integer.MIN_VALUE : Integer.MAX_VALUE;
        }
        if (wild == 2) {
            return -1;
        }
        int most = most(name, i);
        return by.nextInt(12) == 0 ? most + 1 + by.nextInt(2) : by.nextInt(most + 1);
    }

    private static int most(String name, int i) {
        switch (name + i) {
            case "key1": case "change2": case "report2": case "report3": return 99;
            case "key2": case "gate2": case "keyOf1": return 9;
            case "key0": case "key3": case "remake1": case "gate0": case "gateOf0": return 5;
            case "gate1": case "gateOf1": case "left1": case "report1": return 1;
            case "change1": case "best0": case "ith0": case "ways0": case "order0": case "bars0": case "game0":
            case "play0": case "prove0": return 4;
            case "sun0": case "sun1": case "report0": return 15;
            case "ends0": case "on0": case "left0": return 16;
            case "order1": case "bars1": return 63;
            case "times0": return 40;
            case "times1": return 60;
            case "seed0": return 1000000;
            case "sheet0": case "write0": case "item0": case "goAll0": case "wouldBe0": case "shelf0": case "taken0":
            case "act0": case "act1": case "ith1": case "lone0": case "row0": case "alterRow0": return 3;
            case "row1": case "alterRow1": case "shelf1": return 2;
            case "alterRow2": return 8;
            case "sheet1": return 3;
            case "sheet2": case "act2": return 40;
            case "write1": case "item2": case "goAll1": case "wouldBe1": return 20;
            case "write2": return 6;
            case "goAll2": case "wouldBe2": return 5;
            case "taken1": return 14;
            case "trace0": return 10;
            case "feed1": return 8;
            default: return 5;
        }
    }

    /** A text by the grammar, sometimes with a byte or a word put in or taken out. */
    private void text() throws ReflectiveOperationException {
        StringBuilder text = new StringBuilder();
        int rules = by.nextInt(12) == 0 ? 9 : by.nextInt(5);
        for (int i = 0; i < rules; i++) {
            text.append(pick("key", "iron", "sleeve", "third", "salt", "spare"));
            if (by.nextInt(rules > 5 ? 20 : 4) != 0) {
                text.append(" if ");
                condition(text, 0);
            }
            text.append(' ').append(pick("turn", "carry", "chill")).append(pick(";", "; ", " ;"));
        }
        if (by.nextInt(3) == 0 && text.length() > 0) {
            spoil(text);
        }
        String all = text.length() > 200 ? text.substring(0, 200) : text.toString();
        for (int i = 0; i < all.length(); i += 8) {
            long eight = by.nextLong();
            int n = Math.min(8, all.length() - i);
            for (int j = 0; j < n; j++) {
                eight = eight & ~(255L << (8 * j)) | (all.charAt(i + j) & 255L) << (8 * j);
            }
            call("feed", new Class<?>[] {long.class, int.class}, new Object[] {eight, n});
        }
        call("rules");
        told.add("  (text " + all + ")");
    }

    private void spoil(StringBuilder text) {
        int at = by.nextInt(text.length());
        switch (by.nextInt(5)) {
            case 0: text.deleteCharAt(at); break;
            case 1: text.insert(at, (char) by.nextInt(256)); break;
            case 2: text.insert(at, pick(" if ", " not ", "(", ")", ";", " 12345 ", " and ", "7", "<", "x")); break;
            case 3: text.setLength(at); break;
            default: text.insert(at, "((");
        }
    }

    private void condition(StringBuilder text, int open) {
        int ones = 1 + by.nextInt(3);
        for (int i = 0; i < ones; i++) {
            if (i > 0) {
                text.append(pick(" and ", " or "));
            }
            for (int nots = by.nextInt(3); nots > 0; nots--) {
                text.append("not ");
            }
            if (by.nextInt(3) == 0 && open < (by.nextInt(9) == 0 ? 4 : 3)) {
                text.append('(');
                condition(text, open + 1);
                text.append(')');
            } else {
                text.append(value()).append(pick("<", "=", ">", " < ", " = ")).append(value());
            }
        }
    }

    private String value() {
        return by.nextInt(3) == 0 ? String.valueOf(by.nextInt(by.nextInt(3) == 0 ? 100 : 6))
            : pick("halt", "teeth", "straw", "heat", "number");
    }

    private String pick(String... of) {
        return of[by.nextInt(of.length)];
    }
}
