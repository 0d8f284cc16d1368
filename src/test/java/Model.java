import java.util.ArrayList;
import java.util.List;

/**
 * The document told once more, as slowly and plainly as can be, to be held against IceKeys: states are copied,
 * PLANS are all listed, the text is read by descent, rows are real arrays, and the machine's exceptions are used.
 */
final class Model {
    static final int BAD = -1, FULL = -2, NONE = -3, STATE = -4;

    private static final class K {
        int kind, teeth, straw, gate;
        boolean turned;

        K copy() {
            K k = new K();
            k.kind = kind;
            k.teeth = teeth;
            k.straw = straw;
            k.gate = gate;
            k.turned = turned;
            return k;
        }
    }

    /** A condition's tree. */
    private static final class Node {
        String sign;
        String leftName, rightName;
        int leftNumber, rightNumber;
        Node left, right;
    }

    private static final class Rule {
        String kind, does;
        Node cond;
    }

    private static final class S {
        int halt = 0, end = 12, score = 0, z = 1;
        int[] sun = new int[16], ward = new int[6], slack = new int[6];
        List<K> keys = new ArrayList<>();
        List<Rule> rules = new ArrayList<>();
        List<int[]> reports = new ArrayList<>();

        S copy() {
            S s = new S();
            s.halt = halt;
            s.end = end;
            s.score = score;
            s.z = z;
            s.sun = sun.clone();
            s.ward = ward.clone();
            s.slack = slack.clone();
            for (K k : keys) {
                s.keys.add(k.copy());
            }
            s.rules = new ArrayList<>(rules);
            s.reports = new ArrayList<>(reports);
            return s;
        }
    }

    private static final String[] NAMES = {"key", "iron", "sleeve", "third", "salt", "spare"};
    private static final int[] PARENT = {-1, 0, 0, 2, 0, 4};

    private S s = new S();
    private S kept = null;
    private StringBuilder tape = new StringBuilder();
    private List<int[]> rows = new ArrayList<>();
    private final Object[] sheets = new Object[4];
    private final Object[] shelves = new Object[4];
    private List<Integer> trace = new ArrayList<>();

    Model() {
        java.util.Arrays.fill(s.sun, 5);
    }

    // ---- what the terms say

    private static int sunOf(S s, int halt) {
        return halt > 15 ? 0 : s.sun[halt];
    }

    private static int meltsBase(int kind, int heat, int shade, int halt) {
        int key = 3 + 2 * heat;
        int sleeve = Math.max(0, 2 * key - shade);
        int salt = heat * heat;
        return new int[] {key, 0, sleeve, sleeve / 2, salt, salt + halt / 3}[kind];
    }

    private static int melts(S s, int k) {
        K me = s.keys.get(k);
        int sun = sunOf(s, s.halt);
        int m = meltsBase(me.kind, sun / 4, sun % 4, s.halt) - me.straw / 3;
        for (K other : s.keys) {
            if (other != me && other.gate == me.gate && !other.turned) {
                m--;
            }
        }
        return m < 0 ? 0 : m;
    }

    private static int shapeBy(int kind, int teeth, int straw, int number) {
        int key = teeth / 10;
        int sleeve = key + teeth / 50;
        int salt = teeth / 12;
        return new int[] {key, 5, sleeve, Math.max(0, sleeve - straw / 4), salt, Math.min(9, salt + number)}[kind];
    }

    private static int shape(S s, int k) {
        K me = s.keys.get(k);
        return shapeBy(me.kind, me.teeth, me.straw, k);
    }

    private static boolean fits(S s, int k, int ward) {
        K me = s.keys.get(k);
        return me.teeth > 0 && Math.abs(shape(s, k) - ward) <= s.slack[me.gate] / 4;
    }

    private static int pays(S s, int k) {
        K me = s.keys.get(k);
        return !me.turned && fits(s, k, s.ward[me.gate]) ? 5 + me.teeth / 20 : 0;
    }

    private static boolean under(int kind, int above) {
        for (int k = kind; k >= 0; k = PARENT[k]) {
            if (k == above) {
                return true;
            }
        }
        return false;
    }

    private static int will(S s, int k) {
        for (Rule r : s.rules) {
            int kind = List.of(NAMES).indexOf(r.kind);
            if (under(s.keys.get(k).kind, kind) && (r.cond == null || holds(s, k, r.cond))) {
                return List.of("turn", "carry", "chill").indexOf(r.does);
            }
        }
        return 0;
    }

    private static int fact(S s, int k, String name, int number) {
        if (name == null) {
            return number;
        }
        switch (name) {
            case "halt": return s.halt;
            case "teeth": return s.keys.get(k).teeth;
            case "straw": return s.keys.get(k).straw;
            case "heat": return sunOf(s, s.halt) / 4;
            case "number": return k;
            default: throw new IllegalStateException(name);
        }
    }

    private static boolean holds(S s, int k, Node n) {
        switch (n.sign) {
            case "or": return holds(s, k, n.left) | holds(s, k, n.right);
            case "and": return holds(s, k, n.left) & holds(s, k, n.right);
            case "not": return !holds(s, k, n.left);
            default:
        }
        int a = fact(s, k, n.leftName, n.leftNumber);
        int b = fact(s, k, n.rightName, n.rightNumber);
        return n.sign.equals("<") ? a < b : n.sign.equals("=") ? a == b : a > b;
    }

    private static boolean over(S s) {
        return s.halt >= s.end;
    }

    private static boolean mayTurn(S s, int k) {
        return will(s, k) == 0 && pays(s, k) > 0;
    }

    /** A HALT goes by: WORTH. */
    private static int go(S s, int act) {
        int worth = 0;
        if (act != 0 && !s.keys.get(act - 1).turned) {
            K me = s.keys.get(act - 1);
            int will = will(s, act - 1);
            if (will == 0) {
                worth += pays(s, act - 1);
                if (worth > 0) {
                    me.turned = true;
                }
            } else if (will == 2 && sunOf(s, s.halt) % 4 > 1) {
                me.teeth = Math.min(99, me.teeth + 7);
                worth += 1;
            }
        }
        int[] melts = new int[s.keys.size()];
        for (int k = 0; k < melts.length; k++) {
            melts[k] = melts(s, k);
        }
        for (int k = 0; k < melts.length; k++) {
            s.keys.get(k).teeth = Math.max(0, s.keys.get(k).teeth - melts[k]);
        }
        for (K k : s.keys) {
            worth += k.turned && k.teeth > 0 ? 1 : 0;
        }
        s.halt++;
        return worth;
    }

    private static int restAct(S s) {
        for (int k = 0; k < s.keys.size(); k++) {
            if (mayTurn(s, k)) {
                return k + 1;
            }
        }
        return 0;
    }

    private static int rest(S s, int n) {
        int worth = 0;
        for (int i = 0; i < n && !over(s); i++) {
            worth += go(s, restAct(s));
        }
        return worth;
    }

    private static int turnedSet(S s) {
        int set = 0;
        for (int k = 0; k < s.keys.size(); k++) {
            set |= s.keys.get(k).turned ? 1 << k : 0;
        }
        return set;
    }

    private static int allTeeth(S s) {
        int all = 0;
        for (K k : s.keys) {
            all += k.teeth;
        }
        return all;
    }

    private boolean noKey(int k) {
        return k < 0 || k >= s.keys.size();
    }

    // ---- the fort, keys

    int key(int kind, int teeth, int straw, int gate) {
        if (kind < 1 || kind > 5 || teeth < 0 || teeth > 99 || straw < 0 || straw > 9 || gate < 0 || gate > 5) {
            return BAD;
        }
        if (s.keys.size() == 6) {
            return FULL;
        }
        K k = new K();
        k.kind = kind;
        k.teeth = teeth;
        k.straw = straw;
        k.gate = gate;
        s.keys.add(k);
        return s.keys.size() - 1;
    }

    int keyOf(int k, int what) {
        if (noKey(k) || what < 0 || what > 9) {
            return BAD;
        }
        K me = s.keys.get(k);
        return new int[] {me.kind, me.teeth, me.straw, me.gate, me.turned ? 1 : 0, melts(s, k), shape(s, k), pays(s, k),
            mayTurn(s, k) ? 1 : 0, will(s, k)}[what];
    }

    int change(int k, int what, int v) {
        if (noKey(k) || what < 1 || what > 4 || v < 0 || v > new int[] {0, 99, 9, 5, 1}[what]) {
            return BAD;
        }
        int was = keyOf(k, what);
        K me = s.keys.get(k);
        if (what == 1) {
            me.teeth = v;
        } else if (what == 2) {
            me.straw = v;
        } else if (what == 3) {
            me.gate = v;
        } else {
            me.turned = v == 1;
        }
        return was;
    }

    int remake(int k, int kind) {
        if (noKey(k) || kind < 1 || kind > 5) {
            return BAD;
        }
        int was = s.keys.get(k).kind;
        s.keys.get(k).kind = kind;
        return was;
    }

    int sun(int halt, int v) {
        if (halt < 0 || halt > 15 || v < 0 || v > 15) {
            return BAD;
        }
        int was = s.sun[halt];
        s.sun[halt] = v;
        return was;
    }

    int gate(int f, int what, int v) {
        if (f < 0 || f > 5 || what < 0 || what > 1 || v < 0 || v > 9) {
            return BAD;
        }
        int[] row = what == 0 ? s.ward : s.slack;
        int was = row[f];
        row[f] = v;
        return was;
    }

    int gateOf(int f, int what) {
        if (f < 0 || f > 5 || what < 0 || what > 1) {
            return BAD;
        }
        return what == 0 ? s.ward[f] : s.slack[f];
    }

    int ends(int v) {
        if (v < 1 || v > 16) {
            return BAD;
        }
        if (v < s.halt) {
            return STATE;
        }
        int was = s.end;
        s.end = v;
        return was;
    }

    int anew() {
        int was = s.halt;
        s.halt = 0;
        s.score = 0;
        for (K k : s.keys) {
            k.turned = false;
        }
        return was;
    }

    int state(int what) {
        if (what < 0 || what > 6) {
            return BAD;
        }
        return new int[] {s.halt, s.end, s.score, over(s) ? 1 : 0, turnedSet(s), sunOf(s, s.halt), allTeeth(s)}[what];
    }

    // ---- the rules

    int feed(long eight, int n) {
        if (n < 1 || n > 8) {
            return BAD;
        }
        if (tape.length() + n > 200) {
            return FULL;
        }
        for (int i = 0; i < n; i++) {
            tape.append((char) (eight >> (8 * i) & 255));
        }
        return tape.length();
    }

    private static final class Fault extends RuntimeException {
        private static final long serialVersionUID = 1L;
        final int place;

        Fault(int place) {
            this.place = place;
        }
    }

    private String text;
    private List<String> tokens;
    private List<Integer> places;
    private int at;

    int rules() {
        text = tape.toString();
        tape = new StringBuilder();
        split();
        try {
            List<Rule> told = new ArrayList<>();
            while (!peek().isEmpty()) {
                if (told.size() == 8) {
                    throw new Fault(places.get(at));
                }
                told.add(rule());
            }
            s.rules = told;
            return told.size();
        } catch (Fault f) {
            return -100 - f.place;
        }
    }

    /** Tokens; a wrong one stands as "?", the end as "". */
    private void split() {
        tokens = new ArrayList<>();
        places = new ArrayList<>();
        java.util.regex.Matcher m = java.util.regex.Pattern.compile("[a-z]+|[0-9]+|[^ ]", java.util.regex.Pattern.DOTALL)
            .matcher(text);
        while (m.find()) {
            String t = m.group();
            tokens.add(t.matches("[a-z]+|[0-9]{1,4}|[();<=>]") ? t : "?");
            places.add(m.start());
        }
        tokens.add("");
        places.add(text.length());
        at = 0;
    }

    private String peek() {
        return tokens.get(at);
    }

    private String take(String... allowed) {
        String t = peek();
        if (!List.of(allowed).contains(t)) {
            throw new Fault(places.get(at));
        }
        at++;
        return t;
    }

    private Rule rule() {
        Rule r = new Rule();
        r.kind = take(NAMES);
        if (peek().equals("if")) {
            at++;
            r.cond = cond(0);
        }
        r.does = take("turn", "carry", "chill");
        take(";");
        return r;
    }

    private static Node join(String sign, Node left, Node right) {
        Node n = new Node();
        n.sign = sign;
        n.left = left;
        n.right = right;
        return n;
    }

    private Node cond(int open) {
        Node n = all(open);
        while (peek().equals("or")) {
            at++;
            n = join("or", n, all(open));
        }
        return n;
    }

    private Node all(int open) {
        Node n = one(open);
        while (peek().equals("and")) {
            at++;
            n = join("and", n, one(open));
        }
        return n;
    }

    private Node one(int open) {
        if (peek().equals("not")) {
            at++;
            return join("not", one(open), null);
        }
        if (peek().equals("(") && open < 3) {
            at++;
            Node n = cond(open + 1);
            take(")");
            return n;
        }
        Node n = new Node();
        String left = value();
        n.sign = take("<", "=", ">");
        String right = value();
        if (Character.isDigit(left.charAt(0))) {
            n.leftNumber = Integer.parseInt(left);
        } else {
            n.leftName = left;
        }
        if (Character.isDigit(right.charAt(0))) {
            n.rightNumber = Integer.parseInt(right);
        } else {
            n.rightName = right;
        }
        return n;
    }

    private String value() {
        if (!peek().isEmpty() && Character.isDigit(peek().charAt(0))) {
            return tokens.get(at++);
        }
        return take("halt", "teeth", "straw", "heat", "number");
    }

    // ---- halts

    int halt() {
        if (over(s)) {
            return STATE;
        }
        int worth = go(s, restAct(s));
        s.score += worth;
        return worth;
    }

    int on(int n) {
        return n < 0 || n > 16 ? BAD : rest(s.copy(), n);
    }

    int when(int k) {
        if (noKey(k)) {
            return BAD;
        }
        S c = s.copy();
        if (c.keys.get(k).turned) {
            return NONE;
        }
        while (!over(c)) {
            rest(c, 1);
            if (c.keys.get(k).turned) {
                return c.halt - 1;
            }
        }
        return NONE;
    }

    int strawFor(int k) {
        if (noKey(k)) {
            return BAD;
        }
        int best = -1, most = -1;
        for (int v = 0; v <= 9; v++) {
            S c = s.copy();
            c.keys.get(k).straw = v;
            int worth = rest(c, 16);
            if (worth > most) {
                most = worth;
                best = v;
            }
        }
        return best;
    }

    int gateFor(int k) {
        if (noKey(k)) {
            return BAD;
        }
        int best = -1, most = -1;
        for (int v = 0; v <= 5; v++) {
            S c = s.copy();
            c.keys.get(k).gate = v;
            int worth = rest(c, 16);
            if (worth > most) {
                most = worth;
                best = v;
            }
        }
        return best;
    }

    int gone(int k) {
        if (noKey(k)) {
            return BAD;
        }
        S c = s.copy();
        while (true) {
            if (c.keys.get(k).teeth == 0) {
                return c.halt;
            }
            if (over(c)) {
                return NONE;
            }
            rest(c, 1);
        }
    }

    int opens(int k) {
        if (noKey(k)) {
            return BAD;
        }
        int set = 0;
        for (int w = 0; w <= 9; w++) {
            set |= fits(s, k, w) ? 1 << w : 0;
        }
        return set;
    }

    int left(int n, int what) {
        if (n < 0 || n > 16 || what < 0 || what > 1) {
            return BAD;
        }
        S c = s.copy();
        rest(c, n);
        return what == 0 ? allTeeth(c) : turnedSet(c);
    }

    int bunches(int what) {
        if (what < -1 || what >= s.keys.size()) {
            return BAD;
        }
        int n = s.keys.size();
        boolean[][] close = new boolean[n][n];
        for (int i = 0; i < n; i++) {
            for (int j = 0; j < n; j++) {
                K a = s.keys.get(i), b = s.keys.get(j);
                close[i][j] = !a.turned && !b.turned && (a.gate == b.gate || shape(s, i) == shape(s, j));
            }
        }
        for (int m = 0; m < n; m++) {
            for (int i = 0; i < n; i++) {
                for (int j = 0; j < n; j++) {
                    close[i][j] |= close[i][m] && close[m][j];
                }
            }
        }
        java.util.TreeSet<Integer> all = new java.util.TreeSet<>();
        int answer = 0;
        for (int i = 0; i < n; i++) {
            int set = 0;
            for (int j = 0; j < n; j++) {
                set |= close[i][j] ? 1 << j : 0;
            }
            if (set != 0) {
                all.add(set);
            }
            if (i == what) {
                answer = set;
            }
        }
        return what == -1 ? all.size() : answer;
    }

    // ---- plans

    /** All PLANS of n, each as its ACTS, from the least on. */
    private List<int[]> plans(int n) {
        int length = Math.max(0, Math.min(n, s.end - s.halt));
        List<int[]> all = new ArrayList<>();
        int base = s.keys.size() + 1;
        int count = (int) Math.round(Math.pow(base, length));
        for (int c = 0; c < count; c++) {
            int[] plan = new int[length];
            int rest = c;
            for (int i = length - 1; i >= 0; i--) {
                plan[i] = rest % base;
                rest /= base;
            }
            all.add(plan);
        }
        return all;
    }

    private int[] firstBest(int n, int[] worthAndWays) {
        int most = -1, ways = 0;
        int[] first = null;
        for (int[] plan : plans(n)) {
            S c = s.copy();
            int worth = 0;
            for (int act : plan) {
                worth += go(c, act);
            }
            if (worth > most) {
                most = worth;
                ways = 0;
                first = plan;
            }
            ways += worth == most ? 1 : 0;
        }
        worthAndWays[0] = most;
        worthAndWays[1] = ways;
        return first;
    }

    int best(int n) {
        if (n < 0 || n > 4) {
            return BAD;
        }
        int[] w = new int[2];
        firstBest(n, w);
        return w[0];
    }

    int ith(int n, int i) {
        if (n < 0 || n > 4 || i < 0 || i > 3) {
            return BAD;
        }
        int[] plan = firstBest(n, new int[2]);
        return i < plan.length ? plan[i] : NONE;
    }

    int ways(int n) {
        if (n < 0 || n > 4) {
            return BAD;
        }
        int[] w = new int[2];
        firstBest(n, w);
        return w[1];
    }

    private boolean noSet(int keys) {
        return keys < 0 || keys >= 1 << s.keys.size();
    }

    int order(int n, int keys) {
        if (n < 0 || n > 4 || noSet(keys)) {
            return BAD;
        }
        int fewest = 99;
        for (int[] plan : plans(n)) {
            S c = s.copy();
            int acts = 0;
            for (int act : plan) {
                go(c, act);
                acts += act != 0 ? 1 : 0;
            }
            if ((turnedSet(c) & keys) == keys) {
                fewest = Math.min(fewest, acts);
            }
        }
        return fewest == 99 ? NONE : fewest;
    }

    int bars(int n, int keys) {
        if (n < 0 || n > 4 || noSet(keys)) {
            return BAD;
        }
        int union = 0;
        for (int[] plan : plans(n)) {
            S c = s.copy();
            for (int act : plan) {
                go(c, act);
            }
            union |= turnedSet(c);
        }
        for (int k = 0; k < 6; k++) {
            if ((keys >> k & 1) == 1 && (union >> k & 1) == 0) {
                return k;
            }
        }
        return NONE;
    }

    private static int[] value(S s, int n, boolean first) {
        if (n == 0 || over(s)) {
            return new int[] {0, -1};
        }
        int[] best = null;
        for (int act = 0; act <= s.keys.size(); act++) {
            S c = s.copy();
            int worth = go(c, act) + value(c, n - 1, !first)[0];
            if (best == null || (first ? worth > best[0] : worth < best[0])) {
                best = new int[] {worth, act};
            }
        }
        return best;
    }

    int game(int n) {
        return n < 1 || n > 4 ? BAD : value(s, n, true)[0];
    }

    int play(int n) {
        return n < 1 || n > 4 ? BAD : over(s) ? NONE : value(s, n, true)[1];
    }

    // ---- strangers, lots

    int report(int k, int asked, int least, int most) {
        if (k < 0 || k > 15 || asked < 0 || asked > 1) {
            return BAD;
        }
        int top = asked == 0 ? 99 : 9;
        if (least < 0 || least > top || most < 0 || most > top || most < least) {
            return BAD;
        }
        if (s.reports.size() == 6) {
            return FULL;
        }
        s.reports.add(new int[] {k, asked, least, most});
        return s.reports.size() - 1;
    }

    int forget() {
        int n = s.reports.size();
        s.reports.clear();
        return n;
    }

    private List<int[]> loneBut(int but) {
        List<int[]> fit = new ArrayList<>();
        for (int kind = 1; kind <= 5; kind++) {
            for (int straw = 0; straw <= 9; straw++) {
                for (int teeth = 9; teeth <= 99; teeth += 10) {
                    boolean all = true;
                    for (int r = 0; r < s.reports.size(); r++) {
                        all &= r == but || isSo(s.reports.get(r), kind, straw, teeth);
                    }
                    if (all) {
                        fit.add(new int[] {fit.size(), kind, straw, teeth});
                    }
                }
            }
        }
        return fit;
    }

    private boolean isSo(int[] report, int kind, int straw, int teeth) {
        S c = new S();
        c.sun = s.sun.clone();
        c.end = 16;
        K k = new K();
        k.kind = kind;
        k.straw = straw;
        k.teeth = teeth;
        c.keys.add(k);
        for (int i = 0; i < report[0]; i++) {
            go(c, 0);
        }
        int was = report[1] == 0 ? k.teeth : shape(c, 0);
        return was >= report[2] && was <= report[3];
    }

    int lone(int what) {
        if (what < 0 || what > 3) {
            return BAD;
        }
        List<int[]> fit = loneBut(-1);
        return what == 0 ? fit.size() : fit.isEmpty() ? NONE : fit.get(0)[what];
    }

    int liar() {
        if (!loneBut(-1).isEmpty()) {
            return NONE;
        }
        for (int r = 0; r < s.reports.size(); r++) {
            if (!loneBut(r).isEmpty()) {
                return r;
            }
        }
        return NONE;
    }

    int seed(int v) {
        int was = s.z;
        s.z = v;
        return was;
    }

    private static int goLot(S s) {
        s.z = s.z * 1103515245 + 12345;
        return go(s, (s.z >>> 16) % (s.keys.size() + 1));
    }

    int lot() {
        if (over(s)) {
            return STATE;
        }
        int worth = goLot(s);
        s.score += worth;
        return worth;
    }

    int times(int n, int v) {
        if (n < 1 || n > 40 || v < 0 || v > 999) {
            return BAD;
        }
        int count = 0;
        int z = s.z;
        for (int i = 0; i < n; i++) {
            S c = s.copy();
            c.z = z;
            int worth = 0;
            while (!over(c)) {
                worth += goLot(c);
            }
            z = c.z;
            count += worth >= v ? 1 : 0;
        }
        return count;
    }

    // ---- rows

    int prove(int n) {
        if (n < 0 || n > 4) {
            return BAD;
        }
        rows = new ArrayList<>();
        S c = s.copy();
        for (int act : firstBest(n, new int[2])) {
            int worth = go(c, act);
            rows.add(new int[] {act, worth, turnedSet(c)});
        }
        return rows.size();
    }

    int row(int k, int what) {
        return k < 0 || k >= rows.size() || what < 0 || what > 2 ? -9 : rows.get(k)[what];
    }

    int alterRow(int k, int what, int v) {
        int was = row(k, what);
        if (k >= 0 && k < rows.size() && what >= 0 && what <= 2) {
            rows.get(k)[what] = v;
        }
        return was;
    }

    int judge() {
        S c = s.copy();
        for (int i = 0; i < rows.size(); i++) {
            int[] r = rows.get(i);
            if (over(c) || r[0] < 0 || r[0] > c.keys.size() || go(c, r[0]) != r[1] || turnedSet(c) != r[2]) {
                return i + 1;
            }
        }
        return 0;
    }

    // ---- the host

    private static Object make(int sort, int n) {
        switch (sort) {
            case 0: return new byte[n];
            case 1: return new short[n];
            case 2: return new int[n];
            case 3: return new long[n];
            default: return new boolean[n];
        }
    }

    int sheet(int sheet, int sort, int n) {
        if (sheet < 0 || sheet > 3 || sort < -1 || sort > 4 || sort != -1 && n > 40) {
            return BAD;
        }
        try {
            sheets[sheet] = sort == -1 ? null : make(sort, n);
            return 1;
        } catch (NegativeArraySizeException e) {
            return -14;
        }
    }

    int write(int sheet, int i, int v) {
        if (sheet < 0 || sheet > 3) {
            return BAD;
        }
        Object row = sheets[sheet];
        try {
            if (row instanceof byte[]) {
                ((byte[]) row)[i] = (byte) v;
            } else if (row instanceof short[]) {
                ((short[]) row)[i] = (short) v;
            } else if (row instanceof long[]) {
                ((long[]) row)[i] = v;
            } else if (row instanceof boolean[]) {
                ((boolean[]) row)[i] = v != 0;
            } else {
                ((int[]) row)[i] = v;
            }
            return 1;
        } catch (RuntimeException e) {
            return refusal(e);
        }
    }

    private static int refusal(RuntimeException e) {
        return e instanceof NullPointerException ? -11 : e instanceof IndexOutOfBoundsException ? -12
            : e instanceof ClassCastException ? -13 : e instanceof ArithmeticException ? -15 : -99;
    }

    int item(int sheet, int sort, int i) {
        if (sheet < 0 || sheet > 3 || sort < 0 || sort > 4) {
            return BAD;
        }
        Object row = sheets[sheet];
        try {
            switch (sort) {
                case 0: return ((byte[]) row)[i];
                case 1: return ((short[]) row)[i];
                case 2: return ((int[]) row)[i];
                case 3: return (int) ((long[]) row)[i];
                default: return ((boolean[]) row)[i] ? 1 : 0;
            }
        } catch (RuntimeException e) {
            return refusal(e);
        }
    }

    int goAll(int sheet, int i, int n) {
        if (sheet < 0 || sheet > 3 || n < 0 || n > 20) {
            return BAD;
        }
        try {
            byte[] row = (byte[]) sheets[sheet];
            int length = row.length;
            int worth = 0;
            for (int j = i; j < (long) i + n && length >= 0; j++) {
                int act = row[j];
                if (act >= 0 && act <= s.keys.size() && !over(s)) {
                    int w = go(s, act);
                    s.score += w;
                    worth += w;
                }
            }
            return worth;
        } catch (RuntimeException e) {
            return refusal(e);
        }
    }

    int wouldBe(int sheet, int i, int n) {
        if (sheet < 0 || sheet > 3 || n < 0 || n > 20) {
            return BAD;
        }
        try {
            byte[] row = (byte[]) sheets[sheet];
            int length = row.length;
            S c = s.copy();
            int worth = 0;
            for (int j = i; j < (long) i + n && length >= 0; j++) {
                int act = row[j];
                if (act < 0 || act > c.keys.size() || over(c)) {
                    return STATE;
                }
                worth += go(c, act);
            }
            return worth;
        } catch (RuntimeException e) {
            return refusal(e);
        }
    }

    int shelf(int shelf, int what, int n) {
        if (shelf < 0 || shelf > 3 || what < 0 || what > 2 || what == 0 && noKey(n) || what == 1 && (n < 0 || n > 3)) {
            return BAD;
        }
        shelves[shelf] = what == 0 ? (Object) n : what == 1 ? sheets[n] : null;
        return 1;
    }

    /** What a SHELF holds now: an Integer for a KEY that there is, a row, or null. */
    private Object held(int shelf) {
        Object o = shelves[shelf];
        return o instanceof Integer && noKey((Integer) o) ? null : o;
    }

    int taken(int shelf, int as) {
        if (shelf < 0 || shelf > 3 || as < 0 || as > 14 || as > 5 && as < 10) {
            return BAD;
        }
        Object o = held(shelf);
        if (o == null) {
            return -11;
        }
        if (o instanceof Integer) {
            return as <= 5 && under(s.keys.get((Integer) o).kind, as) ? (Integer) o : -13;
        }
        return as >= 10 && o.getClass() == make(as - 10, 0).getClass() ? java.lang.reflect.Array.getLength(o) : -13;
    }

    int act(int shelf, int act, int x) {
        trace = new ArrayList<>();
        if (shelf < 0 || shelf > 3 || act < 0 || act > 3 || !(held(shelf) instanceof Integer)) {
            return 0;
        }
        int k = (Integer) held(shelf);
        K me = s.keys.get(k);
        try {
            return new Thing(me.kind, k, me.gate).body(me.kind, act, x);
        } catch (ArithmeticException e) {
            return -15;
        }
    }

    private final class Thing {
        final int kind, n, a;

        Thing(int kind, int n, int a) {
            this.kind = kind;
            this.n = n;
            this.a = a;
        }

        int self(int act, int x) {
            return body(kind, act, x);
        }

        /** The body that a KIND has of an ACT: its own, or that of the one above it. */
        int body(int of, int act, int x) {
            String is = NAMES[of] + " " + List.of("drips", "turns", "halves", "fits").get(act);
            int above = PARENT[of];
            int r;
            switch (is) {
                case "key drips": ran(10); return x * 8 + n;
                case "key turns": ran(11); return self(0, x) - 5 * a;
                case "key halves": ran(12); return x % (a - n + 3);
                case "key fits": ran(13); r = self(1, x); return r + self(2, x);
                case "iron drips": ran(20); return body(above, 0, x) ^ 26;
                case "sleeve turns": ran(30); return body(above, 1, x) * 3;
                case "salt halves": ran(40); return body(above, 2, x) - 9;
                case "third drips": ran(50); return body(above, 0, x - 10);
                case "third fits": ran(51); r = body(above, 3, x); return r ^ self(1, a);
                case "spare turns": ran(60); return 0 - body(above, 1, x);
                case "spare halves": ran(61); r = body(above, 2, x); return r + self(0, n);
                default: return body(above, act, x);
            }
        }

        void ran(int number) {
            if (trace.size() < 30) {
                trace.add(number);
            }
        }
    }

    int trace(int i) {
        return i < 0 || i >= trace.size() ? NONE : trace.get(i);
    }

    int many(int what) {
        if (what < 0 || what > 6) {
            return BAD;
        }
        return new int[] {s.keys.size(), s.rules.size(), Integer.bitCount(turnedSet(s)), s.reports.size(), rows.size(),
            tape.length(), trace.size()}[what];
    }

    // ---- kept

    int keep() {
        kept = s.copy();
        return 1;
    }

    int again() {
        if (kept == null) {
            return NONE;
        }
        s = kept.copy();
        return s.keys.size();
    }
}
