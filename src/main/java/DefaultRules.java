import java.util.Arrays;

/**
 * Which type a number has that no one told: classes of types, instances, a list of types that are
 * taken, the narrow rule and the wider one, why none is; and what the numbers then come to.
 */
public final class DefaultRules {
    public static final long NOTHING = Long.MIN_VALUE;

    private static final int NO_SUCH = -1;
    private static final int OUTSIDE = -2;
    private static final int AS_TOLD = -3;
    private static final int NO_ROOM = -4;

    private static final int EQ = 0;
    private static final int ORD = 1;
    private static final int SHOW = 2;
    private static final int NUM = 3;
    private static final int REAL = 4;
    private static final int INTEGRAL = 5;
    private static final int FRACTIONAL = 6;
    private static final int REALFRAC = 7;

    private static final int NO_BASE = 0;
    private static final int INT = 1;
    private static final int LONG = 2;
    private static final int FLOAT = 3;
    private static final int DOUBLE = 4;

    private static final int NO_TYPE = -1;
    private static final int AS_THEY_CAME = 0;
    private static final int WITH_ALL_SUPERS = 1;

    private static final int WHOLE = 0;
    private static final int PART = 1;
    private static final int SOME = 2;
    private static final int TWO = 3;
    private static final int ONE = 4;
    private static final int TURN = 5;

    private static final int PLUS = 0;
    private static final int MINUS = 1;
    private static final int TIMES = 2;
    private static final int REST = 5;
    private static final int LESSER = 6;
    private static final int GREATER = 7;

    private static final int NEGATED = 0;
    private static final int UNSIGNED = 1;

    private static final int AS_NUMBER = 0;
    private static final int CUT = 1;

    private static final int REASON_FIXED = 1;
    private static final int REASON_NOT_NUMERIC = 2;
    private static final int REASON_NOT_STANDARD = 3;
    private static final int REASON_EMPTY_LIST = 4;
    private static final int REASON_NONE_FITS = 5;
    private static final int REASON_TOLD_LACKS = 6;

    private static final int RECKONED = 0;
    private static final int NO_VALUE = 1;
    private static final int BY_ZERO = 2;

    /** What each kind of TWO, and of TURN, needs of the nodes that it names. */
    private static final int[] TWO_NEEDS =
        {NUM, NUM, NUM, FRACTIONAL, INTEGRAL, INTEGRAL, ORD, ORD};
    private static final int ONE_KINDS = 3;
    private static final int[] TURN_TAKES = {INTEGRAL, REALFRAC, REAL};
    private static final int[] TURN_GIVES = {NUM, INTEGRAL, FRACTIONAL};

    private final Families families;
    private final Types types;
    private final Taken taken;
    private final Nodes nodes;
    private final Numbers numbers;
    private boolean wide;

    public DefaultRules() {
        families = new Families();
        types = new Types();
        taken = new Taken();
        nodes = new Nodes();
        numbers = new Numbers();
        wide = false;
    }

    public int family(int supers, boolean standard) {
        return families.add(supers, standard);
    }

    public int type(int base) {
        return types.add(base);
    }

    public int instance(int family, int type) {
        if (!families.holds(family) || !types.holds(type)) {
            return NO_SUCH;
        }
        if (types.lacking(type, 1 << family) == 0
            || types.lacking(type, families.above[family]) != 0
            || !types.baseAllows(type, family)) {
            return AS_TOLD;
        }
        types.owned[type] |= 1 << family;
        return 1;
    }

    public int has(int family, int type) {
        if (!families.holds(family) || !types.holds(type)) {
            return NO_SUCH;
        }
        return types.lacking(type, 1 << family) == 0 ? 1 : 0;
    }

    public int list(int type) {
        if (type == -1) {
            taken.count = 0;
            return 0;
        }
        return types.holds(type) ? taken.add(type) : NO_SUCH;
    }

    public int wider(boolean on) {
        int was = wide ? 1 : 0;
        wide = on;
        return was;
    }

    // ---- nodes

    public int whole(int v) {
        return nodes.addAlone(WHOLE, 0, v, 0, 1 << NUM);
    }

    public int part(int v, int k) {
        if (k < 1 || k > 6) {
            return OUTSIDE;
        }
        return nodes.addAlone(PART, 0, v, k, 1 << FRACTIONAL);
    }

    public int some() {
        return nodes.addAlone(SOME, 0, 0, 0, 0);
    }

    public int two(int kind, int x, int y) {
        if (!nodes.holds(x) || !nodes.holds(y)) {
            return NO_SUCH;
        }
        if (kind < 0 || kind >= TWO_NEEDS.length) {
            return OUTSIDE;
        }
        if (nodes.toldUnlike(x, y)) {
            return AS_TOLD;
        }
        if (nodes.full()) {
            return NO_ROOM;
        }
        nodes.join(x, y);
        return nodes.addBeside(TWO, kind, x, y, 1 << TWO_NEEDS[kind]);
    }

    public int one(int kind, int x) {
        if (!nodes.holds(x)) {
            return NO_SUCH;
        }
        if (kind < 0 || kind >= ONE_KINDS) {
            return OUTSIDE;
        }
        return nodes.addBeside(ONE, kind, x, x, 1 << NUM);
    }

    public int turn(int kind, int x) {
        if (!nodes.holds(x)) {
            return NO_SUCH;
        }
        if (kind < 0 || kind >= TURN_TAKES.length) {
            return OUTSIDE;
        }
        if (nodes.full()) {
            return NO_ROOM;
        }
        nodes.needed[nodes.leader[x]] |= 1 << TURN_TAKES[kind];
        return nodes.addAlone(TURN, kind, x, x, 1 << TURN_GIVES[kind]);
    }

    public int need(int x, int family) {
        if (!nodes.holds(x) || !families.holds(family)) {
            return NO_SUCH;
        }
        int leader = nodes.leader[x];
        boolean did = (nodes.needed[leader] & (1 << family)) != 0;
        nodes.needed[leader] |= 1 << family;
        return did ? 0 : 1;
    }

    public int tell(int x, int type) {
        if (!nodes.holds(x) || !types.holds(type)) {
            return NO_SUCH;
        }
        int leader = nodes.leader[x];
        if (nodes.told[leader] != NO_TYPE && nodes.told[leader] != type) {
            return AS_TOLD;
        }
        nodes.told[leader] = type;
        return 1;
    }

    public int fix(int x) {
        if (!nodes.holds(x)) {
            return NO_SUCH;
        }
        int leader = nodes.leader[x];
        boolean was = nodes.fixed[leader];
        nodes.fixed[leader] = true;
        return was ? 0 : 1;
    }

    // ---- what comes

    public int group(int x) {
        return nodes.holds(x) ? nodes.leader[x] : NO_SUCH;
    }

    public int needs(int x, int what) {
        if (!nodes.holds(x)) {
            return NO_SUCH;
        }
        int needed = nodes.needed[nodes.leader[x]];
        if (what == AS_THEY_CAME) {
            return needed;
        }
        return what == WITH_ALL_SUPERS ? families.withAllSupers(needed) : OUTSIDE;
    }

    public int chosen(int x) {
        return nodes.holds(x) ? typeOrReason(nodes.leader[x]) : NO_SUCH;
    }

    public int lacks(int x, int place) {
        if (!nodes.holds(x) || place < -1 || place >= taken.count) {
            return NO_SUCH;
        }
        int leader = nodes.leader[x];
        int type = place == -1 ? nodes.told[leader] : taken.row[place];
        if (type == NO_TYPE) {
            return AS_TOLD;
        }
        return families.leastOf(types.lacking(type, nodes.needed[leader]));
    }

    public long value(int x) throws ArithmeticException {
        if (!nodes.holds(x)) {
            return NOTHING;
        }
        int outcome = reckon(x, x);
        if (outcome == BY_ZERO) {
            throw new ArithmeticException("by 0");
        }
        return outcome == NO_VALUE ? NOTHING : numbers.numberOrBits(x);
    }

    public int compare(int x, int y) {
        if (!nodes.holds(x) || !nodes.holds(y)) {
            return NO_SUCH;
        }
        if (nodes.leader[x] != nodes.leader[y] || reckon(x, y) != RECKONED) {
            return AS_TOLD;
        }
        return numbers.order(x, y);
    }

    private int typeOrReason(int leader) {
        int needed = nodes.needed[leader];
        int told = nodes.told[leader];
        if (told != NO_TYPE) {
            return types.lacking(told, needed) == 0 ? told : answerFor(REASON_TOLD_LACKS);
        }
        if (nodes.fixed[leader]) {
            return answerFor(REASON_FIXED);
        }
        int barred = wide ? barredByWiderRule(needed) : barredByNarrowRule(needed);
        return barred != 0 ? answerFor(barred) : firstTaken(needed);
    }

    private int barredByNarrowRule(int needed) {
        if ((needed & families.numeric) == 0) {
            return REASON_NOT_NUMERIC;
        }
        return (needed & ~families.standard) != 0 ? REASON_NOT_STANDARD : 0;
    }

    private int barredByWiderRule(int needed) {
        int enough = families.numeric | 1 << EQ | 1 << ORD | 1 << SHOW;
        return (needed & enough) == 0 ? REASON_NOT_NUMERIC : 0;
    }

    private int firstTaken(int needed) {
        if (taken.count == 0) {
            return answerFor(REASON_EMPTY_LIST);
        }
        for (int place = 0; place < taken.count; place++) {
            if (types.lacking(taken.row[place], needed) == 0) {
                return taken.row[place];
            }
        }
        return answerFor(REASON_NONE_FITS);
    }

    private static int answerFor(int reason) {
        return -10 - reason;
    }

    /** Reckons x and y, with all nodes that they come of: RECKONED, NO_VALUE or BY_ZERO. */
    private int reckon(int x, int y) {
        int last = Math.max(x, y);
        for (int n = 0; n <= last; n++) {
            numbers.wanted[n] = false;
        }
        numbers.wanted[x] = true;
        numbers.wanted[y] = true;
        // All bases come first: that one node has no value outweighs a division by 0 in another.
        for (int n = last; n >= 0; n--) {
            if (numbers.wanted[n] && !makeReady(n)) {
                return NO_VALUE;
            }
        }
        return numbers.reckonUpTo(last, nodes) ? RECKONED : BY_ZERO;
    }

    /** Sets a node's base and marks what it comes of, which has lesser numbers; false: no value. */
    private boolean makeReady(int n) {
        int form = nodes.form[n];
        int type = typeOrReason(nodes.leader[n]);
        if (form == SOME || type < 0 || types.base[type] == NO_BASE) {
            return false;
        }
        numbers.base[n] = types.base[type];
        if (form == TWO || form == ONE || form == TURN) {
            numbers.wanted[nodes.first[n]] = true;
            numbers.wanted[nodes.second[n]] = true;
        }
        return true;
    }

    /** The classes of types; sets of them are bits. */
    private static final class Families {
        private static final int MOST = 12;
        private static final int AT_FIRST = 8;
        private static final int[] ALL_SUPERS_AT_FIRST = {
            0, 1 << EQ, 0, 0,
            1 << EQ | 1 << ORD | 1 << NUM,
            1 << EQ | 1 << ORD | 1 << NUM | 1 << REAL,
            1 << NUM,
            1 << EQ | 1 << ORD | 1 << NUM | 1 << REAL | 1 << FRACTIONAL};

        private int count;
        private final int[] above;
        private int standard;
        private int numeric;

        Families() {
            count = AT_FIRST;
            above = Arrays.copyOf(ALL_SUPERS_AT_FIRST, MOST);
            standard = (1 << AT_FIRST) - 1;
            numeric = 1 << NUM | 1 << REAL | 1 << INTEGRAL | 1 << FRACTIONAL | 1 << REALFRAC;
        }

        boolean holds(int number) {
            return number >= 0 && number < count;
        }

        int add(int supers, boolean isStandard) {
            if (supers >>> count != 0) {
                return OUTSIDE;
            }
            if (count >= MOST) {
                return NO_ROOM;
            }
            int added = count;
            above[added] = withAllSupers(supers);
            if (isStandard) {
                standard |= 1 << added;
            }
            if ((above[added] & (1 << NUM)) != 0) {
                numeric |= 1 << added;
            }
            count++;
            return added;
        }

        /** The least class of a set, or AS_TOLD if it is empty. */
        int leastOf(int set) {
            for (int i = 0; i < count; i++) {
                if ((set & (1 << i)) != 0) {
                    return i;
                }
            }
            return AS_TOLD;
        }

        int withAllSupers(int set) {
            int all = set;
            for (int i = 0; i < count; i++) {
                if ((set & (1 << i)) != 0) {
                    all |= above[i];
                }
            }
            return all;
        }
    }

    /** The types, with their bases and the classes of which they have instances. */
    private static final class Types {
        private static final int MOST = 10;
        private static final int[] BASES_AT_FIRST = {NO_BASE, INT, LONG, FLOAT, DOUBLE, NO_BASE};
        private static final int SHOWN = 1 << EQ | 1 << ORD | 1 << SHOW;
        private static final int OF_WHOLE = SHOWN | 1 << NUM | 1 << REAL | 1 << INTEGRAL;
        private static final int OF_FLOATS =
            SHOWN | 1 << NUM | 1 << REAL | 1 << FRACTIONAL | 1 << REALFRAC;
        private static final int[] OWNED_AT_FIRST =
            {SHOWN, OF_WHOLE, OF_WHOLE, OF_FLOATS, OF_FLOATS, SHOWN};

        private int count;
        private final int[] base;
        private final int[] owned;

        Types() {
            count = BASES_AT_FIRST.length;
            base = Arrays.copyOf(BASES_AT_FIRST, MOST);
            owned = Arrays.copyOf(OWNED_AT_FIRST, MOST);
        }

        boolean holds(int number) {
            return number >= 0 && number < count;
        }

        int add(int itsBase) {
            if (itsBase < NO_BASE || itsBase > DOUBLE) {
                return OUTSIDE;
            }
            if (count >= MOST) {
                return NO_ROOM;
            }
            base[count] = itsBase;
            return count++;
        }

        /** Those of a set of classes of which a type has no instance. */
        int lacking(int number, int set) {
            return set & ~owned[number];
        }

        boolean baseAllows(int number, int classNumber) {
            if (classNumber < NUM || classNumber > REALFRAC) {
                return true;
            }
            switch (base[number]) {
                case INT:
                case LONG:
                    return classNumber != FRACTIONAL && classNumber != REALFRAC;
                case FLOAT:
                case DOUBLE:
                    return classNumber != INTEGRAL;
                default:
                    return false;
            }
        }
    }

    /** The list of types that are taken, in its order. */
    private static final class Taken {
        private static final int MOST = 6;

        private int count;
        private final int[] row;

        Taken() {
            row = new int[MOST];
            row[0] = LONG;
            row[1] = DOUBLE;
            count = 2;
        }

        int add(int typeNumber) {
            if (count >= MOST) {
                return NO_ROOM;
            }
            row[count] = typeNumber;
            count++;
            return count;
        }
    }

    /** The nodes; what is known of a group stands at its leader, the least of its nodes. */
    private static final class Nodes {
        private static final int MOST = 60;

        private int count;
        private final int[] form;
        private final int[] kind;
        private final int[] first;
        private final int[] second;
        private final int[] leader;
        private final int[] needed;
        private final int[] told;
        private final boolean[] fixed;

        Nodes() {
            count = 0;
            form = new int[MOST];
            kind = new int[MOST];
            first = new int[MOST];
            second = new int[MOST];
            leader = new int[MOST];
            needed = new int[MOST];
            told = new int[MOST];
            fixed = new boolean[MOST];
        }

        boolean holds(int n) {
            return n >= 0 && n < count;
        }

        boolean full() {
            return count >= MOST;
        }

        boolean toldUnlike(int x, int y) {
            int toldX = told[leader[x]];
            int toldY = told[leader[y]];
            return toldX != NO_TYPE && toldY != NO_TYPE && toldX != toldY;
        }

        /** Makes one group of those of x and y, which are not told unlike types. */
        void join(int x, int y) {
            int kept = Math.min(leader[x], leader[y]);
            int gone = Math.max(leader[x], leader[y]);
            if (kept == gone) {
                return;
            }
            needed[kept] |= needed[gone];
            fixed[kept] = fixed[kept] || fixed[gone];
            if (told[kept] == NO_TYPE) {
                told[kept] = told[gone];
            }
            for (int n = gone; n < count; n++) {
                if (leader[n] == gone) {
                    leader[n] = kept;
                }
            }
        }

        /** A node of a new group, with what this needs. */
        int addAlone(int itsForm, int itsKind, int a, int b, int need) {
            if (full()) {
                return NO_ROOM;
            }
            int added = count;
            leader[added] = added;
            needed[added] = need;
            told[added] = NO_TYPE;
            fixed[added] = false;
            return put(itsForm, itsKind, a, b);
        }

        /** A node of the group of x, which gets a need. */
        int addBeside(int itsForm, int itsKind, int x, int y, int need) {
            if (full()) {
                return NO_ROOM;
            }
            leader[count] = leader[x];
            needed[leader[x]] |= need;
            return put(itsForm, itsKind, x, y);
        }

        private int put(int itsForm, int itsKind, int a, int b) {
            form[count] = itsForm;
            kind[count] = itsKind;
            first[count] = a;
            second[count] = b;
            return count++;
        }
    }

    /**
     * What nodes come to, by their bases. A float is held as the double that is the same number;
     * what is no number is only marked, as no operation may answer NaN.
     */
    private static final class Numbers {
        private static final long FLOAT_ODD = 0x7fc00000L;
        private static final long DOUBLE_ODD = 0x7ff8000000000000L;
        private static final int POWERS = 10;

        private final boolean[] wanted;
        private final int[] base;
        private final long[] exact;
        private final double[] real;
        private final boolean[] odd;
        /** 2 to the 1, 2, 4, .. 512. */
        private final double[] powers;

        Numbers() {
            wanted = new boolean[Nodes.MOST];
            base = new int[Nodes.MOST];
            exact = new long[Nodes.MOST];
            real = new double[Nodes.MOST];
            odd = new boolean[Nodes.MOST];
            powers = new double[POWERS];
            powers[0] = 2.0;
            for (int i = 1; i < POWERS; i++) {
                powers[i] = powers[i - 1] * powers[i - 1];
            }
        }

        /** Reckons all nodes that are wanted, in their order; false: one divides by 0. */
        boolean reckonUpTo(int last, Nodes nodes) {
            for (int n = 0; n <= last; n++) {
                if (wanted[n] && !reckonNode(n, nodes)) {
                    return false;
                }
            }
            return true;
        }

        private boolean reckonNode(int n, Nodes nodes) {
            int a = nodes.first[n];
            int b = nodes.second[n];
            switch (nodes.form[n]) {
                case WHOLE:
                    putLong(n, a);
                    return true;
                case PART:
                    putDouble(n, a / tenTo(b));
                    return true;
                case TWO:
                    return isWhole(n) ? twoWhole(n, nodes.kind[n], exact[a], exact[b])
                        : twoReal(n, nodes.kind[n], a, b);
                case ONE:
                    oneOf(n, nodes.kind[n], a);
                    return true;
                default:
                    turnOf(n, nodes.kind[n], a);
                    return true;
            }
        }

        private boolean isWhole(int n) {
            return base[n] == INT || base[n] == LONG;
        }

        private static double tenTo(int k) {
            double power = 1.0;
            for (int i = 0; i < k; i++) {
                power *= 10.0;
            }
            return power;
        }

        /** As Java casts a long. */
        private void putLong(int n, long v) {
            if (isWhole(n)) {
                exact[n] = base[n] == INT ? (int) v : v;
                return;
            }
            odd[n] = false;
            // A long becomes a float at once: by way of a double it would be rounded twice.
            real[n] = base[n] == FLOAT ? (float) v : (double) v;
        }

        private void putDouble(int n, double v) {
            odd[n] = false;
            real[n] = base[n] == FLOAT ? (float) v : v;
        }

        private void copyReal(int n, int from) {
            real[n] = real[from];
            odd[n] = odd[from];
        }

        private boolean twoWhole(int n, int kind, long a, long b) {
            switch (kind) {
                case PLUS:
                    putLong(n, a + b);
                    return true;
                case MINUS:
                    putLong(n, a - b);
                    return true;
                case TIMES:
                    putLong(n, a * b);
                    return true;
                case LESSER:
                    putLong(n, a <= b ? a : b);
                    return true;
                case GREATER:
                    putLong(n, a <= b ? b : a);
                    return true;
                default:
                    if (b == 0) {
                        return false;
                    }
                    putLong(n, kind == REST ? a % b : a / b);
                    return true;
            }
        }

        /** Always true: floats divide by 0. */
        private boolean twoReal(int n, int kind, int a, int b) {
            if (kind == LESSER) {
                copyReal(n, atMost(a, b) ? a : b);
            } else if (kind == GREATER) {
                copyReal(n, atMost(a, b) ? b : a);
            } else if (odd[a] || odd[b] || comesToNoNumber(kind, real[a], real[b])) {
                odd[n] = true;
            } else if (base[n] == FLOAT) {
                odd[n] = false;
                real[n] = floatsOf(kind, (float) real[a], (float) real[b]);
            } else {
                odd[n] = false;
                real[n] = doublesOf(kind, real[a], real[b]);
            }
            return true;
        }

        private boolean atMost(int a, int b) {
            return !odd[a] && !odd[b] && real[a] <= real[b];
        }

        private static boolean comesToNoNumber(int kind, double a, double b) {
            boolean bothInfinite = infinite(a) && infinite(b);
            switch (kind) {
                case PLUS:
                    return bothInfinite && (a > 0) != (b > 0);
                case MINUS:
                    return bothInfinite && (a > 0) == (b > 0);
                case TIMES:
                    return (a == 0 && infinite(b)) || (infinite(a) && b == 0);
                default:
                    // By: whole numbers alone have a quotient and a rest.
                    return bothInfinite || (a == 0 && b == 0);
            }
        }

        private static boolean infinite(double v) {
            return v > 1.7976931348623157E308 || v < -1.7976931348623157E308;
        }

        private static float floatsOf(int kind, float a, float b) {
            switch (kind) {
                case PLUS:
                    return a + b;
                case MINUS:
                    return a - b;
                case TIMES:
                    return a * b;
                default:
                    return a / b;
            }
        }

        private static double doublesOf(int kind, double a, double b) {
            switch (kind) {
                case PLUS:
                    return a + b;
                case MINUS:
                    return a - b;
                case TIMES:
                    return a * b;
                default:
                    return a / b;
            }
        }

        private void oneOf(int n, int kind, int a) {
            if (isWhole(n)) {
                putLong(n, oneWhole(kind, exact[a]));
            } else if (odd[a]) {
                odd[n] = true;
            } else {
                putDouble(n, oneReal(kind, real[a]));
            }
        }

        private static long oneWhole(int kind, long a) {
            switch (kind) {
                case NEGATED:
                    return -a;
                case UNSIGNED:
                    return a < 0 ? -a : a;
                default:
                    return Long.compare(a, 0L);
            }
        }

        private static double oneReal(int kind, double a) {
            switch (kind) {
                case NEGATED:
                    return -a;
                case UNSIGNED:
                    return negative(a) ? -a : a;
                default:
                    if (a == 0) {
                        return a;
                    }
                    return a < 0 ? -1.0 : 1.0;
            }
        }

        /** Whether it has a sign, as -0 has, too. */
        private static boolean negative(double v) {
            return v < 0 || (v == 0 && 1.0 / v < 0);
        }

        private void turnOf(int n, int kind, int a) {
            if (kind == AS_NUMBER) {
                putLong(n, exact[a]);
            } else if (kind == CUT) {
                double from = odd[a] ? 0.0 : real[a];
                exact[n] = base[n] == INT ? (int) from : (long) from;
            } else if (isWhole(a)) {
                putDouble(n, (double) exact[a]);
            } else if (odd[a]) {
                odd[n] = true;
            } else {
                putDouble(n, real[a]);
            }
        }

        long numberOrBits(int n) {
            if (isWhole(n)) {
                return exact[n];
            }
            if (base[n] == FLOAT) {
                return odd[n] ? FLOAT_ODD : bits(real[n], 23, 127, 31);
            }
            return odd[n] ? DOUBLE_ODD : bits(real[n], 52, 1023, 63);
        }

        /** 0 less, 1 the same, 2 more, 3 one is no number. */
        int order(int x, int y) {
            if (isWhole(x)) {
                return 1 + Long.compare(exact[x], exact[y]);
            }
            if (odd[x] || odd[y]) {
                return 3;
            }
            if (real[x] == real[y]) {
                return 1;
            }
            return real[x] < real[y] ? 0 : 2;
        }

        /** The bits of a float or double, by how many its fraction has, its bias, its sign's place. */
        private long bits(double v, int fraction, int bias, int signPlace) {
            boolean hasSign = negative(v);
            long size = sizeBits(hasSign ? -v : v, fraction, bias);
            // With all bits above the sign set, too, a float's bits are an int's number.
            return hasSign ? size | (-1L << signPlace) : size;
        }

        private long sizeBits(double size, int fraction, int bias) {
            if (size == 0) {
                return 0L;
            }
            if (infinite(size)) {
                return (2L * bias + 1L) << fraction;
            }
            double scaled = size;
            int exponent = 0;
            // The least double is 2 to the -1074: three steps of 512 bring each to 1 or more.
            for (int i = 0; i < 3; i++) {
                if (scaled < 1.0) {
                    scaled *= powers[POWERS - 1];
                    exponent -= 1 << (POWERS - 1);
                }
            }
            for (int i = POWERS - 1; i >= 0; i--) {
                if (scaled >= powers[i]) {
                    scaled /= powers[i];
                    exponent += 1 << i;
                }
            }
            long digits = (long) (scaled * (double) (1L << fraction));
            int below = 1 - bias - exponent;
            if (below > 0) {
                return digits >> below;
            }
            return digits + ((long) -below << fraction);
        }
    }
}
