/** Keys of ice, run up a hill to a fort's gates; ../shared/DOC.md says what each call answers. */
public final class IceKeys {
    public static final int BAD = -1, FULL = -2, NONE = -3, STATE = -4;

    private static final int NO_ROW = -9;
    private static final int NOTHING = -11, OUTSIDE = -12, OTHER_SORT = -13, BELOW_ZERO = -14, PARTED_BY_ZERO = -15;
    private static final int FAULT_BASE = -100;

    private static final int KEYS = 6, GATES = 6, SUNS = 16, REPORTS = 6, RULES = 8, KINDS = 6;
    private static final int MOST_TEETH = 99, MOST_DIGIT = 9, MOST_SUN = 15, MOST_END = 16;
    private static final int MOST_PLAN = 4, PLACES = 4, ITEMS = 40, MOST_ITEMS_READ = 20, TAPE = 200, TRACE = 30;
    private static final int LONE_KEYS = 500;

    /** WILLS; 1 is to carry, which is nothing. */
    private static final int TURN = 0, CHILL = 2;
    private static final int KIND_OF_ALL = 0;
    /** For each KIND the one that it is under. */
    private static final int[] ABOVE = {-1, 0, 0, 2, 0, 4};

    private static final int BYTES = 0, SHORTS = 1, BOOLEANS = 4, MISSING = -1;
    private static final int HOLDS_KEY = 0, HOLDS_ROW = 1, HOLDS_NOTHING = 2;
    private static final int FIRST_ROW_AS = 10;
    private static final int REPORT_FIELDS = 4, ROW_FIELDS = 3;
    /** A PLAN is held in an int, three bits for an ACT (0 to 6). */
    private static final int ACT_BITS = 3, ACT_MASK = 7;

    private static final String WORDS =
        "key iron sleeve third salt spare turn carry chill halt teeth straw heat number if and or not ";
    private static final int FIRST_DO = 6, FIRST_FACT = 9, FACTS = 5, IF = 14, AND = 15, OR = 16, NOT = 17;
    private static final int NUMBER = 18, WRONG = -1, TEXT_END = -2;
    private static final int MOST_DIGITS = 4, MOST_OPEN = 3;
    /** In a condition's code a VALUE below this is a NUMBER, one from it on a FACT. */
    private static final int FACT_BASE = 10000;
    private static final int AT_KIND = 0, AT_DO = 1, AT_ONE = 2, AT_SIGN = 3, AT_RIGHT = 4, AT_JOIN = 5, AT_RULE_END = 6;

    private final Fort fort;
    private final Fort kept;
    private boolean isKept;
    private final Plans plans;
    private final Reader reader;
    private final Deed deed;
    private final int[] rows = new int[MOST_PLAN * ROW_FIELDS];
    private int rowCount;
    private final int[] sheetSort = new int[PLACES];
    private final int[] sheetSize = new int[PLACES];
    private final int[][] items = new int[PLACES][ITEMS];
    private final int[] shelfHolds = new int[PLACES];
    /** By what a SHELF holds: the KEY's number, or the row's sort. */
    private final int[] shelfThing = new int[PLACES];
    /** A row never changes its size, and no call shows a shelved row's items: its sort and size are all of it. */
    private final int[] shelfSize = new int[PLACES];

    public IceKeys() {
        Key[] kinds = new Key[KINDS];
        kinds[0] = new Key();
        kinds[1] = new Iron();
        kinds[2] = new Sleeve();
        kinds[3] = new Third();
        kinds[4] = new Salt();
        kinds[5] = new Spare();
        Fort first = new Fort(kinds);
        fort = first;
        kept = new Fort(kinds);
        plans = new Plans(first);
        reader = new Reader();
        deed = new Deed();
        for (int i = 0; i < PLACES; i++) {
            sheetSort[i] = MISSING;
            shelfHolds[i] = HOLDS_NOTHING;
        }
    }

    // ---- the fort, keys

    public int key(int kind, int teeth, int straw, int gate) {
        if (!isKeyKind(kind) || !isIn(teeth, 0, MOST_TEETH) || !isIn(straw, 0, MOST_DIGIT) || !isGate(gate)) {
            return BAD;
        }
        if (fort.count >= KEYS) {
            return FULL;
        }
        int k = fort.count;
        fort.kind[k] = kind;
        fort.teeth[k] = teeth;
        fort.straw[k] = straw;
        fort.gate[k] = gate;
        fort.count = k + 1;
        return k;
    }

    public int keyOf(int k, int what) {
        if (!fort.isKey(k)) {
            return BAD;
        }
        switch (what) {
            case 0: return fort.kind[k];
            case 1: return fort.teeth[k];
            case 2: return fort.straw[k];
            case 3: return fort.gate[k];
            case 4: return fort.isTurned(k) ? 1 : 0;
            case 5: return fort.melts(k);
            case 6: return fort.shape(k);
            case 7: return fort.pays(k);
            case 8: return fort.mayTurn(k) ? 1 : 0;
            case 9: return fort.will(k);
            default: return BAD;
        }
    }

    public int change(int k, int what, int v) {
        if (!fort.isKey(k)) {
            return BAD;
        }
        switch (what) {
            case 1: return put(fort.teeth, k, v, MOST_TEETH);
            case 2: return put(fort.straw, k, v, MOST_DIGIT);
            case 3: return put(fort.gate, k, v, GATES - 1);
            case 4: return changeTurned(k, v);
            default: return BAD;
        }
    }

    private int changeTurned(int k, int v) {
        if (!isIn(v, 0, 1)) {
            return BAD;
        }
        int was = fort.isTurned(k) ? 1 : 0;
        fort.setTurned(k, v == 1);
        return was;
    }

    public int remake(int k, int kind) {
        if (!fort.isKey(k) || !isKeyKind(kind)) {
            return BAD;
        }
        int was = fort.kind[k];
        fort.kind[k] = kind;
        return was;
    }

    public int sun(int halt, int v) {
        return put(fort.sun, halt, v, MOST_SUN);
    }

    public int gate(int f, int what, int v) {
        switch (what) {
            case 0: return put(fort.ward, f, v, MOST_DIGIT);
            case 1: return put(fort.slack, f, v, MOST_DIGIT);
            default: return BAD;
        }
    }

    public int gateOf(int f, int what) {
        if (!isGate(f)) {
            return BAD;
        }
        switch (what) {
            case 0: return fort.ward[f];
            case 1: return fort.slack[f];
            default: return BAD;
        }
    }

    public int ends(int v) {
        if (!isIn(v, 1, MOST_END)) {
            return BAD;
        }
        if (v < fort.halt) {
            return STATE;
        }
        int was = fort.end;
        fort.end = v;
        return was;
    }

    public int anew() {
        int was = fort.halt;
        fort.halt = 0;
        fort.score = 0;
        fort.turned = 0;
        return was;
    }

    public int state(int what) {
        switch (what) {
            case 0: return fort.halt;
            case 1: return fort.end;
            case 2: return fort.score;
            case 3: return fort.isOver() ? 1 : 0;
            case 4: return fort.turned;
            case 5: return fort.sunAt(fort.halt);
            case 6: return fort.allTeeth();
            default: return BAD;
        }
    }

    // ---- the rules

    public int feed(long eight, int n) {
        if (!isIn(n, 1, 8)) {
            return BAD;
        }
        if (reader.size + n > TAPE) {
            return FULL;
        }
        for (int i = 0; i < n; i++) {
            reader.add((int) (eight >>> (8 * i)) & 255);
        }
        return reader.size;
    }

    public int rules() {
        int fault = reader.read();
        if (fault >= 0) {
            return FAULT_BASE - fault;
        }
        fort.rules.copyFrom(reader.draft);
        return fort.rules.count;
    }

    // ---- halts

    public int halt() {
        if (fort.isOver()) {
            return STATE;
        }
        return scored(fort.goBy(fort.restAct()));
    }

    public int on(int n) {
        if (!isIn(n, 0, MOST_END)) {
            return BAD;
        }
        fort.save(0);
        int worth = fort.goRest(n);
        fort.restore(0);
        return worth;
    }

    public int when(int k) {
        if (!fort.isKey(k)) {
            return BAD;
        }
        if (fort.isTurned(k)) {
            return NONE;
        }
        int first = NONE;
        fort.save(0);
        for (int i = 0; i < MOST_END && first == NONE && !fort.isOver(); i++) {
            int now = fort.halt;
            fort.goBy(fort.restAct());
            if (fort.isTurned(k)) {
                first = now;
            }
        }
        fort.restore(0);
        return first;
    }

    public int strawFor(int k) {
        return fort.isKey(k) ? bestValue(fort.straw, k, MOST_DIGIT) : BAD;
    }

    public int gateFor(int k) {
        return fort.isKey(k) ? bestValue(fort.gate, k, GATES - 1) : BAD;
    }

    /** The least of the values 0 to most of a KEY by which THE REST is WORTH most. */
    private int bestValue(int[] values, int k, int most) {
        int was = values[k];
        int best = 0;
        int bestWorth = -1;
        fort.save(0);
        for (int v = 0; v <= most; v++) {
            values[k] = v;
            int worth = fort.goRest(MOST_END);
            fort.restore(0);
            if (worth > bestWorth) {
                best = v;
                bestWorth = worth;
            }
        }
        values[k] = was;
        return best;
    }

    // ---- which is gone when, what it opens, what is left, bunches

    public int gone(int k) {
        if (!fort.isKey(k)) {
            return BAD;
        }
        fort.save(0);
        for (int i = 0; i < MOST_END && fort.teeth[k] > 0 && !fort.isOver(); i++) {
            fort.goBy(fort.restAct());
        }
        int first = fort.teeth[k] == 0 ? fort.halt : NONE;
        fort.restore(0);
        return first;
    }

    public int opens(int k) {
        if (!fort.isKey(k)) {
            return BAD;
        }
        int wards = 0;
        for (int ward = 0; ward <= MOST_DIGIT; ward++) {
            if (fort.fitsWard(k, ward)) {
                wards |= 1 << ward;
            }
        }
        return wards;
    }

    public int left(int n, int what) {
        if (!isIn(n, 0, MOST_END) || !isIn(what, 0, 1)) {
            return BAD;
        }
        fort.save(0);
        fort.goRest(n);
        int answer = what == 0 ? fort.allTeeth() : fort.turned;
        fort.restore(0);
        return answer;
    }

    public int bunches(int what) {
        if (what == -1) {
            return countBunches();
        }
        return fort.isKey(what) ? fort.bunchOf(what) : BAD;
    }

    private int countBunches() {
        int count = 0;
        for (int k = 0; k < fort.count; k++) {
            int bunch = fort.bunchOf(k);
            // a BUNCH is counted at its least KEY
            if (bunch != 0 && leastOf(bunch) == k) {
                count++;
            }
        }
        return count;
    }

    // ---- plans

    public int best(int n) {
        if (!isPlan(n)) {
            return BAD;
        }
        plans.seek(0, n);
        return plans.worth[0];
    }

    public int ith(int n, int i) {
        if (!isPlan(n) || !isIn(i, 0, MOST_PLAN - 1)) {
            return BAD;
        }
        if (i >= fort.haltsOf(n)) {
            return NONE;
        }
        plans.seek(0, n);
        return plans.acts[0] >> (ACT_BITS * i) & ACT_MASK;
    }

    public int ways(int n) {
        if (!isPlan(n)) {
            return BAD;
        }
        plans.seek(0, n);
        return plans.many[0];
    }

    public int order(int n, int keys) {
        if (!isPlan(n) || !isKeySet(keys)) {
            return BAD;
        }
        int fewest = plans.fewest(0, n, keys);
        return fewest > n ? NONE : fewest;
    }

    public int bars(int n, int keys) {
        if (!isPlan(n) || !isKeySet(keys)) {
            return BAD;
        }
        int barred = keys & ~plans.reach(0, n);
        return barred == 0 ? NONE : leastOf(barred);
    }

    // ---- a game, strangers, lots

    public int game(int n) {
        if (!isIn(n, 1, MOST_PLAN)) {
            return BAD;
        }
        return plans.duel(0, n);
    }

    public int play(int n) {
        if (!isIn(n, 1, MOST_PLAN)) {
            return BAD;
        }
        if (fort.isOver()) {
            return NONE;
        }
        plans.duel(0, n);
        return plans.acts[0];
    }

    public int report(int k, int asked, int least, int most) {
        int highest = asked == 0 ? MOST_TEETH : MOST_DIGIT;
        if (!isIn(k, 0, SUNS - 1) || !isIn(asked, 0, 1) || !isIn(least, 0, highest) || !isIn(most, least, highest)) {
            return BAD;
        }
        if (fort.reportCount >= REPORTS) {
            return FULL;
        }
        int number = fort.reportCount;
        int at = number * REPORT_FIELDS;
        fort.reports[at] = k;
        fort.reports[at + 1] = asked;
        fort.reports[at + 2] = least;
        fort.reports[at + 3] = most;
        fort.reportCount = number + 1;
        return number;
    }

    public int forget() {
        int were = fort.reportCount;
        fort.reportCount = 0;
        return were;
    }

    public int lone(int what) {
        if (!isIn(what, 0, 3)) {
            return BAD;
        }
        int count = 0;
        for (int i = 0; i < LONE_KEYS; i++) {
            if (fort.misfits(loneKind(i), loneStraw(i), loneTeeth(i)) == 0) {
                if (what != 0) {
                    return what == 1 ? loneKind(i) : what == 2 ? loneStraw(i) : loneTeeth(i);
                }
                count++;
            }
        }
        return what == 0 ? count : NONE;
    }

    public int liar() {
        int least = REPORTS;
        for (int i = 0; i < LONE_KEYS; i++) {
            int misfits = fort.misfits(loneKind(i), loneStraw(i), loneTeeth(i));
            if (misfits == 0) {
                return NONE;
            }
            if (Integer.bitCount(misfits) == 1) {
                least = Math.min(least, leastOf(misfits));
            }
        }
        return least < REPORTS ? least : NONE;
    }

    /** LONE KEYS are gone through by KIND, then STRAW, then TEETH, as lone() wants the least of them. */
    private static int loneKind(int i) {
        return 1 + i / 100;
    }

    private static int loneStraw(int i) {
        return i / 10 % 10;
    }

    private static int loneTeeth(int i) {
        return 9 + 10 * (i % 10);
    }

    public int seed(int v) {
        int was = fort.z;
        fort.z = v;
        return was;
    }

    public int lot() {
        if (fort.isOver()) {
            return STATE;
        }
        return scored(fort.goBy(fort.drawAct()));
    }

    public int times(int n, int v) {
        if (!isIn(n, 1, 40) || !isIn(v, 0, 999)) {
            return BAD;
        }
        int z = fort.z;
        int count = 0;
        fort.save(0);
        for (int i = 0; i < n; i++) {
            if (fort.goLots() >= v) {
                count++;
            }
            fort.restore(0);
        }
        fort.z = z;
        return count;
    }

    // ---- rows

    public int prove(int n) {
        if (!isPlan(n)) {
            return BAD;
        }
        plans.seek(0, n);
        int acts = plans.acts[0];
        rowCount = fort.haltsOf(n);
        fort.save(0);
        for (int i = 0; i < rowCount; i++) {
            int act = acts >> (ACT_BITS * i) & ACT_MASK;
            rows[i * ROW_FIELDS] = act;
            rows[i * ROW_FIELDS + 1] = fort.goBy(act);
            rows[i * ROW_FIELDS + 2] = fort.turned;
        }
        fort.restore(0);
        return rowCount;
    }

    public int row(int k, int what) {
        return isRowField(k, what) ? rows[k * ROW_FIELDS + what] : NO_ROW;
    }

    public int alterRow(int k, int what, int v) {
        if (!isRowField(k, what)) {
            return NO_ROW;
        }
        int was = rows[k * ROW_FIELDS + what];
        rows[k * ROW_FIELDS + what] = v;
        return was;
    }

    public int judge() {
        int wrong = 0;
        fort.save(0);
        for (int i = 0; i < rowCount && wrong == 0; i++) {
            if (!isRowRight(i * ROW_FIELDS)) {
                wrong = i + 1;
            }
        }
        fort.restore(0);
        return wrong;
    }

    /** Whether the ROW that begins there is right; its HALT has gone by then, if it could. */
    private boolean isRowRight(int at) {
        if (fort.isOver() || !fort.isAct(rows[at])) {
            return false;
        }
        int worth = fort.goBy(rows[at]);
        return rows[at + 1] == worth && rows[at + 2] == fort.turned;
    }

    private boolean isRowField(int k, int what) {
        return isIn(k, 0, rowCount - 1) && isIn(what, 0, ROW_FIELDS - 1);
    }

    // ---- the host

    public int sheet(int sheet, int sort, int n) {
        if (!isPlace(sheet) || !isIn(sort, MISSING, BOOLEANS)) {
            return BAD;
        }
        if (sort != MISSING) {
            if (n > ITEMS) {
                return BAD;
            }
            if (n < 0) {
                return BELOW_ZERO;
            }
            sheetSize[sheet] = n;
            for (int i = 0; i < n; i++) {
                items[sheet][i] = 0;
            }
        }
        sheetSort[sheet] = sort;
        return 1;
    }

    public int write(int sheet, int i, int v) {
        if (!isPlace(sheet)) {
            return BAD;
        }
        if (sheetSort[sheet] == MISSING) {
            return NOTHING;
        }
        if (!isItem(sheet, i)) {
            return OUTSIDE;
        }
        items[sheet][i] = narrowed(v, sheetSort[sheet]);
        return 1;
    }

    /** A long is held as an int: of what was written only the lowest 32 bits are ever asked. */
    private static int narrowed(int v, int sort) {
        switch (sort) {
            case BYTES: return (byte) v;
            case SHORTS: return (short) v;
            case BOOLEANS: return v != 0 ? 1 : 0;
            default: return v;
        }
    }

    public int item(int sheet, int sort, int i) {
        if (!isPlace(sheet) || !isIn(sort, 0, BOOLEANS)) {
            return BAD;
        }
        int refusal = refusalOf(sheet, sort);
        if (refusal != 0) {
            return refusal;
        }
        return isItem(sheet, i) ? items[sheet][i] : OUTSIDE;
    }

    public int goAll(int sheet, int i, int n) {
        if (!isPlace(sheet) || !isIn(n, 0, MOST_ITEMS_READ)) {
            return BAD;
        }
        int refusal = refusalOf(sheet, BYTES);
        if (refusal != 0) {
            return refusal;
        }
        int worth = 0;
        for (int j = 0; j < n; j++) {
            if (!isItem(sheet, i + j)) {
                return OUTSIDE;
            }
            int act = items[sheet][i + j];
            if (fort.isAct(act) && !fort.isOver()) {
                worth += scored(fort.goBy(act));
            }
        }
        return worth;
    }

    public int wouldBe(int sheet, int i, int n) {
        if (!isPlace(sheet) || !isIn(n, 0, MOST_ITEMS_READ)) {
            return BAD;
        }
        int refusal = refusalOf(sheet, BYTES);
        if (refusal != 0) {
            return refusal;
        }
        fort.save(0);
        int worth = goItems(sheet, i, n);
        fort.restore(0);
        return worth;
    }

    /** What the HALTS with these items as ACTS are WORTH, or the first refusal by items. */
    private int goItems(int sheet, int i, int n) {
        int worth = 0;
        for (int j = 0; j < n; j++) {
            if (!isItem(sheet, i + j)) {
                return OUTSIDE;
            }
            int act = items[sheet][i + j];
            if (!fort.isAct(act) || fort.isOver()) {
                return STATE;
            }
            worth += fort.goBy(act);
        }
        return worth;
    }

    /** Why a SHEET can't be taken for a row of a sort; 0 if it can. */
    private int refusalOf(int sheet, int sort) {
        if (sheetSort[sheet] == MISSING) {
            return NOTHING;
        }
        return sheetSort[sheet] == sort ? 0 : OTHER_SORT;
    }

    public int shelf(int shelf, int what, int n) {
        if (!isPlace(shelf) || !isIn(what, HOLDS_KEY, HOLDS_NOTHING)) {
            return BAD;
        }
        if (what == HOLDS_KEY && !fort.isKey(n) || what == HOLDS_ROW && !isPlace(n)) {
            return BAD;
        }
        shelfHolds[shelf] = what;
        shelfThing[shelf] = n;
        if (what == HOLDS_ROW) {
            shelfHolds[shelf] = sheetSort[n] == MISSING ? HOLDS_NOTHING : HOLDS_ROW;
            shelfThing[shelf] = sheetSort[n];
            shelfSize[shelf] = sheetSize[n];
        }
        return 1;
    }

    public int taken(int shelf, int as) {
        boolean asKey = isIn(as, 0, KINDS - 1);
        if (!isPlace(shelf) || !asKey && !isIn(as, FIRST_ROW_AS, FIRST_ROW_AS + BOOLEANS)) {
            return BAD;
        }
        int thing = shelfThing[shelf];
        if (holdsKey(shelf)) {
            return asKey && isOf(fort.kind[thing], as) ? thing : OTHER_SORT;
        }
        if (shelfHolds[shelf] == HOLDS_ROW) {
            return as == FIRST_ROW_AS + thing ? shelfSize[shelf] : OTHER_SORT;
        }
        return NOTHING;
    }

    private boolean holdsKey(int shelf) {
        return shelfHolds[shelf] == HOLDS_KEY && fort.isKey(shelfThing[shelf]);
    }

    public int act(int shelf, int act, int x) {
        if (!isPlace(shelf) || !isIn(act, 0, 3) || !holdsKey(shelf)) {
            deed.count = 0;
            return 0;
        }
        int k = shelfThing[shelf];
        Key thing = fort.kinds[fort.kind[k]];
        deed.begin(k, fort.gate[k]);
        int answer;
        switch (act) {
            case 0: answer = thing.drips(x, deed); break;
            case 1: answer = thing.turns(x, deed); break;
            case 2: answer = thing.halves(x, deed); break;
            default: answer = thing.fits(x, deed); break;
        }
        return deed.isBroken ? PARTED_BY_ZERO : answer;
    }

    public int trace(int i) {
        return isIn(i, 0, deed.count - 1) ? deed.bodies[i] : NONE;
    }

    public int many(int what) {
        switch (what) {
            case 0: return fort.count;
            case 1: return fort.rules.count;
            case 2: return Integer.bitCount(fort.turned);
            case 3: return fort.reportCount;
            case 4: return rowCount;
            case 5: return reader.size;
            case 6: return deed.count;
            default: return BAD;
        }
    }

    // ---- kept

    public int keep() {
        kept.copyFrom(fort);
        isKept = true;
        return 1;
    }

    public int again() {
        if (!isKept) {
            return NONE;
        }
        fort.copyFrom(kept);
        return fort.count;
    }

    // ---- what several calls share

    private static boolean isIn(int v, int least, int most) {
        return v >= least && v <= most;
    }

    private static boolean isKeyKind(int kind) {
        return isIn(kind, 1, KINDS - 1);
    }

    private static boolean isGate(int f) {
        return isIn(f, 0, GATES - 1);
    }

    private static boolean isPlace(int i) {
        return isIn(i, 0, PLACES - 1);
    }

    private static boolean isPlan(int n) {
        return isIn(n, 0, MOST_PLAN);
    }

    private boolean isKeySet(int keys) {
        return isIn(keys, 0, (1 << fort.count) - 1);
    }

    private boolean isItem(int sheet, int i) {
        return isIn(i, 0, sheetSize[sheet] - 1);
    }

    /** The least number of a set that isn't empty: as many as there are bits below its lowest. */
    private static int leastOf(int set) {
        return Integer.bitCount((set & -set) - 1);
    }

    /** Whether a KIND is another one or under it; none is more than two under the KIND of all. */
    private static boolean isOf(int kind, int above) {
        return kind == above || above == KIND_OF_ALL || ABOVE[kind] == above;
    }

    /** Puts v (0 to most) at a place of a row: what stood there. */
    private static int put(int[] values, int i, int v, int most) {
        if (!isIn(i, 0, values.length - 1) || !isIn(v, 0, most)) {
            return BAD;
        }
        int was = values[i];
        values[i] = v;
        return was;
    }

    private int scored(int worth) {
        fort.score += worth;
        return worth;
    }

    /** All that keep() keeps, and how HALTS go by in it. */
    private static final class Fort {
        final Key[] kinds;
        int halt;
        int end = 12;
        int score;
        int z = 1;
        final int[] sun = new int[SUNS];
        final int[] ward = new int[GATES];
        final int[] slack = new int[GATES];
        int count;
        int turned;
        final int[] kind = new int[KEYS];
        final int[] teeth = new int[KEYS];
        final int[] straw = new int[KEYS];
        final int[] gate = new int[KEYS];
        final Rules rules = new Rules();
        final int[] reports = new int[REPORTS * REPORT_FIELDS];
        int reportCount;
        private final int[] facts = new int[FACTS];
        /** For each level of a search: TEETH, those TURNED, HALT. */
        private final int[] saved = new int[(MOST_PLAN + 1) * (KEYS + 2)];

        Fort(Key[] kinds) {
            this.kinds = kinds;
            for (int i = 0; i < SUNS; i++) {
                sun[i] = 5;
            }
        }

        void copyFrom(Fort other) {
            halt = other.halt;
            end = other.end;
            score = other.score;
            z = other.z;
            System.arraycopy(other.sun, 0, sun, 0, SUNS);
            System.arraycopy(other.ward, 0, ward, 0, GATES);
            System.arraycopy(other.slack, 0, slack, 0, GATES);
            count = other.count;
            turned = other.turned;
            System.arraycopy(other.kind, 0, kind, 0, KEYS);
            System.arraycopy(other.teeth, 0, teeth, 0, KEYS);
            System.arraycopy(other.straw, 0, straw, 0, KEYS);
            System.arraycopy(other.gate, 0, gate, 0, KEYS);
            rules.copyFrom(other.rules);
            System.arraycopy(other.reports, 0, reports, 0, REPORTS * REPORT_FIELDS);
            reportCount = other.reportCount;
        }

        void save(int level) {
            int at = level * (KEYS + 2);
            System.arraycopy(teeth, 0, saved, at, KEYS);
            saved[at + KEYS] = turned;
            saved[at + KEYS + 1] = halt;
        }

        void restore(int level) {
            int at = level * (KEYS + 2);
            System.arraycopy(saved, at, teeth, 0, KEYS);
            turned = saved[at + KEYS];
            halt = saved[at + KEYS + 1];
        }

        boolean isKey(int k) {
            return k >= 0 && k < count;
        }

        boolean isAct(int told) {
            return told >= 0 && told <= count;
        }

        boolean isOver() {
            return halt >= end;
        }

        /** How many HALTS a PLAN of n has. */
        int haltsOf(int n) {
            return Math.max(0, Math.min(n, end - halt));
        }

        boolean isTurned(int k) {
            return (turned >> k & 1) == 1;
        }

        void setTurned(int k, boolean is) {
            turned = is ? turned | 1 << k : turned & ~(1 << k);
        }

        int sunAt(int h) {
            return h >= 0 && h < SUNS ? sun[h] : 0;
        }

        private int heatAt(int h) {
            return sunAt(h) / 4;
        }

        private int shadeAt(int h) {
            return sunAt(h) % 4;
        }

        int allTeeth() {
            int all = 0;
            for (int k = 0; k < count; k++) {
                all += teeth[k];
            }
            return all;
        }

        int melts(int k) {
            int base = kinds[kind[k]].melts(heatAt(halt), shadeAt(halt), halt);
            return Math.max(0, base - straw[k] / 3 - others(k));
        }

        /** How many others of its GATE aren't TURNED. */
        private int others(int k) {
            int others = 0;
            for (int i = 0; i < count; i++) {
                if (i != k && gate[i] == gate[k] && !isTurned(i)) {
                    others++;
                }
            }
            return others;
        }

        int shape(int k) {
            return kinds[kind[k]].shape(teeth[k], straw[k], k);
        }

        boolean fitsWard(int k, int w) {
            int apart = Math.abs(kinds[kind[k]].shape(teeth[k], straw[k], k) - w);
            return teeth[k] > 0 && apart <= slack[gate[k]] / 4;
        }

        int pays(int k) {
            return !isTurned(k) && fitsWard(k, ward[gate[k]]) ? 5 + teeth[k] / 20 : 0;
        }

        int will(int k) {
            facts[0] = halt;
            facts[1] = teeth[k];
            facts[2] = straw[k];
            facts[3] = heatAt(halt);
            facts[4] = k;
            return rules.tells(kind[k], facts);
        }

        boolean mayTurn(int k) {
            return pays(k) > 0 && will(k) == TURN;
        }

        /** The ACT ahead of a HALT of THE REST. */
        int restAct() {
            for (int k = 0; k < count; k++) {
                if (pays(k) > 0 && will(k) == TURN) {
                    return k + 1;
                }
            }
            return 0;
        }

        int goBy(int told) {
            return tell(told) + melt();
        }

        /** The first part of a HALT: what the KEY that is told does. If that is WORTH 0, it has changed nothing. */
        int tell(int told) {
            int k = told - 1;
            if (!isKey(k) || isTurned(k)) {
                return 0;
            }
            int will = will(k);
            if (will == TURN) {
                int pay = pays(k);
                setTurned(k, pay > 0);
                return pay;
            }
            if (will == CHILL && shadeAt(halt) > 1) {
                teeth[k] = Math.min(MOST_TEETH, teeth[k] + 7);
                return 1;
            }
            return 0;
        }

        /** The second part of a HALT; HALT is 1 more then. */
        int melt() {
            int worth = 0;
            for (int k = 0; k < count; k++) {
                // what a KEY MELTS hangs on no TEETH, so that one after the other is as all at once
                teeth[k] = Math.max(0, teeth[k] - melts(k));
                if (isTurned(k) && teeth[k] > 0) {
                    worth++;
                }
            }
            halt++;
            return worth;
        }

        int goRest(int n) {
            int worth = 0;
            for (int i = 0; i < n && !isOver(); i++) {
                worth += tell(restAct()) + melt();
            }
            return worth;
        }

        int drawAct() {
            z = z * 1103515245 + 12345;
            return (z >>> 16) % (count + 1);
        }

        /** All HALTS yet, by LOT. */
        int goLots() {
            int worth = 0;
            for (int i = 0; i < MOST_END && !isOver(); i++) {
                worth += tell(drawAct()) + melt();
            }
            return worth;
        }

        /** KEYS of a KEY's BUNCH, as a set. */
        int bunchOf(int k) {
            if (isTurned(k)) {
                return 0;
            }
            int bunch = 1 << k;
            // each round adds one KEY at least, if any is yet to come
            for (int round = 1; round < count; round++) {
                for (int i = 0; i < count; i++) {
                    if (!isTurned(i) && isCloseToSome(i, bunch)) {
                        bunch |= 1 << i;
                    }
                }
            }
            return bunch;
        }

        private boolean isCloseToSome(int i, int bunch) {
            for (int j = 0; j < count; j++) {
                if ((bunch >> j & 1) == 1 && (gate[i] == gate[j] || shape(i) == shape(j))) {
                    return true;
                }
            }
            return false;
        }

        /** The REPORTS that aren't so of a LONE KEY, as a set. */
        int misfits(int loneKind, int loneStraw, int teethAtFirst) {
            int misfits = 0;
            int loneTeeth = teethAtFirst;
            for (int h = 0; h < SUNS; h++) {
                int shape = kinds[loneKind].shape(loneTeeth, loneStraw, 0);
                misfits |= misfitsAt(h, loneTeeth, shape);
                int melts = kinds[loneKind].melts(heatAt(h), shadeAt(h), h) - loneStraw / 3;
                loneTeeth = Math.max(0, loneTeeth - Math.max(0, melts));
            }
            return misfits;
        }

        private int misfitsAt(int h, int loneTeeth, int shape) {
            int misfits = 0;
            for (int r = 0; r < reportCount; r++) {
                int at = r * REPORT_FIELDS;
                int was = reports[at + 1] == 0 ? loneTeeth : shape;
                if (reports[at] == h && !isIn(was, reports[at + 2], reports[at + 3])) {
                    misfits |= 1 << r;
                }
            }
            return misfits;
        }
    }

    /** PLANS from how the fort is: each search leaves the fort as it was. */
    private static final class Plans {
        /** A PLAN has fewer ACTS than this. */
        private static final int MANY = MOST_PLAN + 1;
        private final Fort fort;
        /** For each level of a search: most WORTH, how many PLANS have it, ACTS of the FIRST. */
        final int[] worth = new int[MOST_PLAN + 1];
        final int[] many = new int[MOST_PLAN + 1];
        final int[] acts = new int[MOST_PLAN + 1];

        Plans(Fort fort) {
            this.fort = fort;
        }

        private boolean isLast(int level, int n) {
            return n <= 0 || level >= MOST_PLAN || fort.isOver();
        }

        /** BEST PLANS of n from this level on. */
        private void seek(int level, int n) {
            worth[level] = 0;
            many[level] = 1;
            acts[level] = 0;
            if (isLast(level, n)) {
                return;
            }
            worth[level] = -1;
            int idleWorth = 0;
            int idleMany = 0;
            fort.save(level);
            for (int act = 0; act <= fort.count; act++) {
                int told = fort.tell(act);
                if (act == 0 || told > 0) {
                    int now = told + fort.melt();
                    seek(level + 1, n - 1);
                    fort.restore(level);
                    now += worth[level + 1];
                    weigh(level, now, many[level + 1], act | acts[level + 1] << ACT_BITS);
                    idleWorth = act == 0 ? now : idleWorth;
                    idleMany = act == 0 ? many[level + 1] : idleMany;
                } else {
                    // nothing was changed, so all that comes is as behind ACT 0, which is lesser
                    weigh(level, idleWorth, idleMany, 0);
                }
            }
        }

        private void weigh(int level, int now, int ways, int plan) {
            if (now > worth[level]) {
                worth[level] = now;
                many[level] = ways;
                acts[level] = plan;
            } else if (now == worth[level]) {
                many[level] += ways;
            }
        }

        /** The fewest ACTS that aren't 0 behind which these are TURNED; MANY, if there are none such. */
        private int fewest(int level, int n, int keys) {
            if ((keys & ~fort.turned) == 0) {
                return 0;
            }
            if (isLast(level, n)) {
                return MANY;
            }
            int fewest = MANY;
            fort.save(level);
            for (int act = 0; act <= fort.count; act++) {
                int told = fort.tell(act);
                // an ACT that changes nothing is never better than ACT 0
                if (act == 0 || told > 0) {
                    fort.melt();
                    int acts = fewest(level + 1, n - 1, keys) + (act == 0 ? 0 : 1);
                    fewest = Math.min(fewest, acts);
                    fort.restore(level);
                }
            }
            return fewest;
        }

        /** KEYS that are TURNED behind some PLAN of n, as a set. */
        private int reach(int level, int n) {
            int reached = fort.turned;
            if (isLast(level, n)) {
                return reached;
            }
            fort.save(level);
            for (int act = 0; act <= fort.count; act++) {
                int told = fort.tell(act);
                if (act == 0 || told > 0) {
                    fort.melt();
                    reached |= reach(level + 1, n - 1);
                    fort.restore(level);
                }
            }
            return reached;
        }

        /** VALUE of a GAME of n; at even levels who wants most is to play. The least ACT that comes to it is kept. */
        private int duel(int level, int n) {
            acts[level] = 0;
            if (isLast(level, n)) {
                return 0;
            }
            boolean wantsMost = level % 2 == 0;
            int value = 0;
            fort.save(level);
            for (int act = 0; act <= fort.count; act++) {
                int told = fort.tell(act);
                if (act == 0 || told > 0) {
                    int now = told + fort.melt();
                    now += duel(level + 1, n - 1);
                    fort.restore(level);
                    if (act == 0 || (wantsMost ? now > value : now < value)) {
                        value = now;
                        acts[level] = act;
                    }
                }
            }
            return value;
        }
    }

    /** THE RULES, their conditions as code: operands ahead of what joins them. */
    private static final class Rules {
        int count;
        private int size;
        private final int[] kinds = new int[RULES];
        private final int[] deeds = new int[RULES];
        /** Where the code of a RULE's condition ends; it begins where that of the one ahead of it ends. */
        private final int[] codeEnds = new int[RULES];
        private final int[] code = new int[TAPE];

        void clear() {
            count = 0;
            size = 0;
        }

        void copyFrom(Rules other) {
            count = other.count;
            size = other.size;
            System.arraycopy(other.kinds, 0, kinds, 0, RULES);
            System.arraycopy(other.deeds, 0, deeds, 0, RULES);
            System.arraycopy(other.codeEnds, 0, codeEnds, 0, RULES);
            System.arraycopy(other.code, 0, code, 0, other.size);
        }

        /** Code takes no more places than the bytes that told it, so there is always room. */
        void addCode(int v) {
            if (size < TAPE) {
                code[size] = v;
                size++;
            }
        }

        void addRule(int kind, int does) {
            if (count < RULES) {
                kinds[count] = kind;
                deeds[count] = does;
                codeEnds[count] = size;
                count++;
            }
        }

        int tells(int kind, int[] facts) {
            int from = 0;
            for (int r = 0; r < count; r++) {
                if (isOf(kind, kinds[r]) && holds(from, codeEnds[r], facts)) {
                    return deeds[r];
                }
                from = codeEnds[r];
            }
            return TURN;
        }

        /** What is so far is kept as bits, the latest lowest; nothing told holds. */
        private boolean holds(int from, int to, int[] facts) {
            int stack = 1;
            for (int i = from; i < to; i++) {
                int top = stack & 1;
                if (code[i] == NOT) {
                    stack ^= 1;
                } else if (code[i] == AND) {
                    stack = stack >>> 1 & (~1 | top);
                } else if (code[i] == OR) {
                    stack = stack >>> 1 | top;
                } else if (i + 2 < to) {
                    int difference = valueOf(code[i + 1], facts) - valueOf(code[i + 2], facts);
                    stack = stack << 1 | (isSo(code[i], difference) ? 1 : 0);
                    i += 2;
                }
            }
            return (stack & 1) == 1;
        }

        private static int valueOf(int v, int[] facts) {
            int fact = v - FACT_BASE;
            return fact >= 0 && fact < FACTS ? facts[fact] : v;
        }

        private static boolean isSo(int sign, int difference) {
            if (sign == '<') {
                return difference < 0;
            }
            return sign == '=' ? difference == 0 : difference > 0;
        }
    }

    /** THE TAPE, and how its TEXT is read: each NAME, NUMBER or other byte leads from a state to the next. */
    private static final class Reader {
        private final int[] tape = new int[TAPE];
        int size;
        final Rules draft = new Rules();
        private int at;
        private int place;
        private int token;
        private int number;
        private int state;
        private int kind;
        private int left;
        private int sign;
        private int open;
        /** For each "(" that is open, and outside of all: a not, an and, an or that waits for what comes. */
        private final boolean[] nots = new boolean[MOST_OPEN + 1];
        private final boolean[] ands = new boolean[MOST_OPEN + 1];
        private final boolean[] ors = new boolean[MOST_OPEN + 1];

        void add(int b) {
            if (size < TAPE) {
                tape[size] = b;
                size++;
            }
        }

        /** Uses THE TAPE up: its FAULT, or -1, and the draft is what it tells. */
        int read() {
            begin();
            int fault = -1;
            boolean ended = false;
            for (int i = 0; i <= size && !ended; i++) {
                next();
                boolean stands = token == TEXT_END ? state == AT_KIND : takes();
                fault = stands ? -1 : place;
                ended = !stands || token == TEXT_END;
            }
            size = 0;
            return fault;
        }

        private void begin() {
            draft.clear();
            at = 0;
            state = AT_KIND;
            // a TEXT with a FAULT may have left some that waited
            for (int i = 0; i <= MOST_OPEN; i++) {
                nots[i] = false;
                ands[i] = false;
                ors[i] = false;
            }
        }

        private void next() {
            while (at < size && tape[at] == ' ') {
                at++;
            }
            place = at;
            if (at >= size) {
                token = TEXT_END;
            } else if (isLetter(tape[at])) {
                nextName();
            } else if (isDigit(tape[at])) {
                nextNumber();
            } else {
                token = isMark(tape[at]) ? tape[at] : WRONG;
                at++;
            }
        }

        private static boolean isLetter(int b) {
            return b >= 'a' && b <= 'z';
        }

        private static boolean isDigit(int b) {
            return b >= '0' && b <= '9';
        }

        private static boolean isMark(int b) {
            return b == '(' || b == ')' || b == ';' || b == '<' || b == '=' || b == '>';
        }

        private void nextName() {
            while (at < size && isLetter(tape[at])) {
                at++;
            }
            token = WRONG;
            int word = 0;
            int begin = 0;
            for (int i = 0; i < WORDS.length() && token == WRONG; i++) {
                if (WORDS.charAt(i) == ' ') {
                    if (isNamed(begin, i - begin)) {
                        token = word;
                    }
                    word++;
                    begin = i + 1;
                }
            }
        }

        /** Whether the NAME that was just passed is the word of WORDS that begins there. */
        private boolean isNamed(int begin, int length) {
            if (at - place != length) {
                return false;
            }
            for (int i = 0; i < length; i++) {
                if (tape[place + i] != WORDS.charAt(begin + i)) {
                    return false;
                }
            }
            return true;
        }

        private void nextNumber() {
            number = 0;
            while (at < size && isDigit(tape[at])) {
                // of more digits than may stand the value counts nothing; it may wrap
                number = number * 10 + tape[at] - '0';
                at++;
            }
            token = at - place > MOST_DIGITS ? WRONG : NUMBER;
        }

        /** Whether what was just passed can stand there. */
        private boolean takes() {
            switch (state) {
                case AT_KIND: return takesKind();
                case AT_DO: return takesIf() || takesDo();
                case AT_ONE: return takesOne();
                case AT_SIGN: return takesSign();
                case AT_RIGHT: return takesRight();
                case AT_JOIN: return takesJoin();
                default: return takesRuleEnd();
            }
        }

        private boolean takesKind() {
            if (draft.count >= RULES || !isIn(token, 0, KINDS - 1)) {
                return false;
            }
            kind = token;
            open = 0;
            state = AT_DO;
            return true;
        }

        private boolean takesIf() {
            if (token != IF) {
                return false;
            }
            state = AT_ONE;
            return true;
        }

        private boolean takesDo() {
            if (open > 0 || !isIn(token, FIRST_DO, FIRST_DO + CHILL)) {
                return false;
            }
            endCondition();
            draft.addRule(kind, token - FIRST_DO);
            state = AT_RULE_END;
            return true;
        }

        private boolean takesOne() {
            if (token == NOT) {
                nots[open] = !nots[open];
                return true;
            }
            if (token == '(' && open < MOST_OPEN) {
                open++;
                return true;
            }
            if (!isValue()) {
                return false;
            }
            left = value();
            state = AT_SIGN;
            return true;
        }

        private boolean isValue() {
            return token == NUMBER || isIn(token, FIRST_FACT, FIRST_FACT + FACTS - 1);
        }

        private int value() {
            return token == NUMBER ? number : FACT_BASE + token - FIRST_FACT;
        }

        private boolean takesSign() {
            if (token != '<' && token != '=' && token != '>') {
                return false;
            }
            sign = token;
            state = AT_RIGHT;
            return true;
        }

        private boolean takesRight() {
            if (!isValue()) {
                return false;
            }
            draft.addCode(sign);
            draft.addCode(left);
            draft.addCode(value());
            endOne();
            state = AT_JOIN;
            return true;
        }

        private boolean takesJoin() {
            if (token == AND) {
                ands[open] = true;
                state = AT_ONE;
                return true;
            }
            if (token == OR) {
                endCondition();
                ors[open] = true;
                state = AT_ONE;
                return true;
            }
            if (token == ')' && open > 0) {
                endCondition();
                open--;
                endOne();
                return true;
            }
            return takesDo();
        }

        private boolean takesRuleEnd() {
            if (token != ';') {
                return false;
            }
            state = AT_KIND;
            return true;
        }

        private void endOne() {
            if (nots[open]) {
                draft.addCode(NOT);
                nots[open] = false;
            }
            if (ands[open]) {
                draft.addCode(AND);
                ands[open] = false;
            }
        }

        /** An or that waits is put behind what it joins. */
        private void endCondition() {
            if (ors[open]) {
                draft.addCode(OR);
                ors[open] = false;
            }
        }
    }

    /** One act() of a thing: which thing it is, and the bodies that ran. */
    private static final class Deed {
        int n;
        int a;
        boolean isBroken;
        int count;
        final int[] bodies = new int[TRACE];

        void begin(int number, int gate) {
            n = number;
            a = gate;
            isBroken = false;
            count = 0;
        }

        /** A body begins; none does any more once the act has broken. */
        void ran(int body) {
            if (!isBroken && count < TRACE) {
                bodies[count] = body;
                count++;
            }
        }

        int leave(int x, int by) {
            if (by == 0) {
                isBroken = true;
                return 0;
            }
            return x % by;
        }
    }

    /** A KIND: how KEYS of it MELT and are shaped, and their ACTS. This one is the KIND of all. */
    private static class Key {
        int melts(int heat, int shade, int halt) {
            return 3 + 2 * heat;
        }

        int shape(int teeth, int straw, int number) {
            return teeth / 10;
        }

        int drips(int x, Deed deed) {
            deed.ran(10);
            return x * 8 + deed.n;
        }

        int turns(int x, Deed deed) {
            deed.ran(11);
            return drips(x, deed) - 5 * deed.a;
        }

        int halves(int x, Deed deed) {
            deed.ran(12);
            return deed.leave(x, deed.a - deed.n + 3);
        }

        int fits(int x, Deed deed) {
            deed.ran(13);
            int turned = turns(x, deed);
            return turned + halves(x, deed);
        }
    }

    private static final class Iron extends Key {
        int melts(int heat, int shade, int halt) {
            return 0;
        }

        int shape(int teeth, int straw, int number) {
            return 5;
        }

        int drips(int x, Deed deed) {
            deed.ran(20);
            return super.drips(x, deed) ^ 26;
        }
    }

    private static class Sleeve extends Key {
        int melts(int heat, int shade, int halt) {
            return Math.max(0, 2 * super.melts(heat, shade, halt) - shade);
        }

        /** A key's SHAPE is told again here: to ask for it would make calls nine deep. */
        int shape(int teeth, int straw, int number) {
            return teeth / 10 + teeth / 50;
        }

        int turns(int x, Deed deed) {
            deed.ran(30);
            return super.turns(x, deed) * 3;
        }
    }

    private static final class Third extends Sleeve {
        int melts(int heat, int shade, int halt) {
            return super.melts(heat, shade, halt) / 2;
        }

        int shape(int teeth, int straw, int number) {
            return Math.max(0, super.shape(teeth, straw, number) - straw / 4);
        }

        int drips(int x, Deed deed) {
            deed.ran(50);
            return super.drips(x - 10, deed);
        }

        int fits(int x, Deed deed) {
            deed.ran(51);
            int fitted = super.fits(x, deed);
            return fitted ^ turns(deed.a, deed);
        }
    }

    private static class Salt extends Key {
        int melts(int heat, int shade, int halt) {
            return heat * heat;
        }

        int shape(int teeth, int straw, int number) {
            return teeth / 12;
        }

        int halves(int x, Deed deed) {
            deed.ran(40);
            return super.halves(x, deed) - 9;
        }
    }

    private static final class Spare extends Salt {
        int melts(int heat, int shade, int halt) {
            return super.melts(heat, shade, halt) + halt / 3;
        }

        int shape(int teeth, int straw, int number) {
            return Math.min(9, super.shape(teeth, straw, number) + number);
        }

        int turns(int x, Deed deed) {
            deed.ran(60);
            return 0 - super.turns(x, deed);
        }

        int halves(int x, Deed deed) {
            deed.ran(61);
            int halved = super.halves(x, deed);
            return halved + drips(deed.n, deed);
        }
    }
}
