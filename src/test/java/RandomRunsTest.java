import java.util.ArrayList;
import java.util.List;
import java.util.Random;
import java.util.TreeSet;

/** Runs of 512 calls by a fixed seed, against a second, slow writing of the document. */
public final class RandomRunsTest {
    private static final int RUNS = 4000;
    private static final int CALLS = 512;

    private static final class NoValue extends Exception { }

    /** The document's words, with Java's own floats and sets for all that is counted. */
    private static final class Model {
        final List<TreeSet<Integer>> supers = new ArrayList<>();
        final List<Boolean> standard = new ArrayList<>();
        final List<Integer> bases = new ArrayList<>();
        final List<TreeSet<Integer>> instances = new ArrayList<>();
        final List<Integer> list = new ArrayList<>();
        boolean wide = false;
        final List<int[]> nodes = new ArrayList<>();
        final List<Group> groups = new ArrayList<>();

        static final class Group {
            final TreeSet<Integer> members = new TreeSet<>();
            final TreeSet<Integer> needs = new TreeSet<>();
            Integer told = null;
            boolean fixed = false;
        }

        Model() {
            int[][] first = {{}, {0}, {}, {}, {1, 3}, {4}, {3}, {4, 6}};
            for (int[] row : first) {
                supers.add(setOf(row));
                standard.add(true);
            }
            int[][] owned = {{0, 1, 2}, {0, 1, 2, 3, 4, 5}, {0, 1, 2, 3, 4, 5},
                {0, 1, 2, 3, 4, 6, 7}, {0, 1, 2, 3, 4, 6, 7}, {0, 1, 2}};
            for (int t = 0; t < 6; t++) {
                instances.add(setOf(owned[t]));
                bases.add(t == 5 ? 0 : t);
            }
            list.add(2);
            list.add(4);
        }

        static TreeSet<Integer> setOf(int... row) {
            TreeSet<Integer> set = new TreeSet<>();
            for (int i : row) {
                set.add(i);
            }
            return set;
        }

        TreeSet<Integer> allSupers(int f) {
            TreeSet<Integer> all = new TreeSet<>();
            for (int s : supers.get(f)) {
                all.add(s);
                all.addAll(allSupers(s));
            }
            return all;
        }

        boolean numeric(int f) {
            return f == 3 || allSupers(f).contains(3);
        }

        boolean node(int x) { return x >= 0 && x < nodes.size(); }
        boolean cls(int f) { return f >= 0 && f < supers.size(); }
        boolean typ(int t) { return t >= 0 && t < bases.size(); }

        Group of(int x) {
            for (Group g : groups) {
                if (g.members.contains(x)) {
                    return g;
                }
            }
            throw new IllegalStateException();
        }

        long family(int bits, boolean std) {
            TreeSet<Integer> set = new TreeSet<>();
            for (int i = 0; i < 32; i++) {
                if ((bits >>> i & 1) == 1) {
                    if (!cls(i)) {
                        return -2;
                    }
                    set.add(i);
                }
            }
            if (supers.size() == 12) {
                return -4;
            }
            supers.add(set);
            standard.add(std);
            return supers.size() - 1;
        }

        long type(int base) {
            if (base < 0 || base > 4) {
                return -2;
            }
            if (bases.size() == 10) {
                return -4;
            }
            bases.add(base);
            instances.add(new TreeSet<>());
            return bases.size() - 1;
        }

        long instance(int f, int t) {
            if (!cls(f) || !typ(t)) {
                return -1;
            }
            int base = bases.get(t);
            boolean barred = instances.get(t).contains(f)
                || !instances.get(t).containsAll(supers.get(f))
                || base == 0 && f >= 3 && f <= 7
                || (base == 3 || base == 4) && f == 5
                || (base == 1 || base == 2) && (f == 6 || f == 7);
            if (barred) {
                return -3;
            }
            instances.get(t).add(f);
            return 1;
        }

        long has(int f, int t) {
            return !cls(f) || !typ(t) ? -1 : instances.get(t).contains(f) ? 1 : 0;
        }

        long list(int t) {
            if (t == -1) {
                list.clear();
                return 0;
            }
            if (!typ(t)) {
                return -1;
            }
            if (list.size() == 6) {
                return -4;
            }
            list.add(t);
            return list.size();
        }

        long wider(boolean on) {
            boolean was = wide;
            wide = on;
            return was ? 1 : 0;
        }

        long make(Group g, int need, int... node) {
            Group at = g;
            if (at == null) {
                at = new Group();
                groups.add(at);
            }
            at.members.add(nodes.size());
            if (need >= 0) {
                at.needs.add(need);
            }
            nodes.add(node);
            return nodes.size() - 1;
        }

        boolean full() { return nodes.size() == 60; }

        long whole(int v) { return full() ? -4 : make(null, 3, 'w', 0, v); }

        long part(int v, int k) {
            return k < 1 || k > 6 ? -2 : full() ? -4 : make(null, 6, 'p', 0, v, k);
        }

        long some() { return full() ? -4 : make(null, -1, 's', 0); }

        long two(int kind, int x, int y) {
            if (!node(x) || !node(y)) {
                return -1;
            }
            if (kind < 0 || kind > 7) {
                return -2;
            }
            Group g = of(x);
            Group h = of(y);
            if (g.told != null && h.told != null && !g.told.equals(h.told)) {
                return -3;
            }
            if (full()) {
                return -4;
            }
            if (g != h) {
                groups.remove(h);
                g.members.addAll(h.members);
                g.needs.addAll(h.needs);
                g.fixed |= h.fixed;
                g.told = g.told == null ? h.told : g.told;
            }
            int need = kind <= 2 ? 3 : kind == 3 ? 6 : kind <= 5 ? 5 : 1;
            return make(g, need, 't', kind, x, y);
        }

        long one(int kind, int x) {
            return !node(x) ? -1 : kind < 0 || kind > 2 ? -2 : full() ? -4 : make(of(x), 3, 'o', kind, x);
        }

        long turn(int kind, int x) {
            if (!node(x) || kind < 0 || kind > 2 || full()) {
                return !node(x) ? -1 : kind < 0 || kind > 2 ? -2 : -4;
            }
            of(x).needs.add(kind == 0 ? 5 : kind == 1 ? 7 : 4);
            return make(null, kind == 0 ? 3 : kind == 1 ? 5 : 6, 'u', kind, x);
        }

        long need(int x, int f) {
            return !node(x) || !cls(f) ? -1 : of(x).needs.add(f) ? 1 : 0;
        }

        long tell(int x, int t) {
            if (!node(x) || !typ(t)) {
                return -1;
            }
            Group g = of(x);
            if (g.told != null && g.told != t) {
                return -3;
            }
            g.told = t;
            return 1;
        }

        long fix(int x) {
            if (!node(x)) {
                return -1;
            }
            boolean was = of(x).fixed;
            of(x).fixed = true;
            return was ? 0 : 1;
        }

        long group(int x) { return node(x) ? of(x).members.first() : -1; }

        long needs(int x, int what) {
            if (!node(x)) {
                return -1;
            }
            if (what != 0 && what != 1) {
                return -2;
            }
            int bits = 0;
            for (int f : of(x).needs) {
                bits |= 1 << f;
                if (what == 1) {
                    for (int s : allSupers(f)) {
                        bits |= 1 << s;
                    }
                }
            }
            return bits;
        }

        long chosen(int x) {
            if (!node(x)) {
                return -1;
            }
            Group g = of(x);
            if (g.told != null) {
                return instances.get(g.told).containsAll(g.needs) ? g.told : -16;
            }
            if (g.fixed) {
                return -11;
            }
            boolean enough = false;
            boolean allStandard = true;
            for (int f : g.needs) {
                enough |= numeric(f) || wide && f <= 2;
                allStandard &= standard.get(f);
            }
            if (!enough) {
                return -12;
            }
            if (!wide && !allStandard) {
                return -13;
            }
            if (list.isEmpty()) {
                return -14;
            }
            for (int t : list) {
                if (instances.get(t).containsAll(g.needs)) {
                    return t;
                }
            }
            return -15;
        }

        long lacks(int x, int place) {
            if (!node(x) || place < -1 || place >= list.size()) {
                return -1;
            }
            Integer t = place == -1 ? of(x).told : list.get(place);
            if (t == null) {
                return -3;
            }
            for (int f : of(x).needs) {
                if (!instances.get(t).contains(f)) {
                    return f;
                }
            }
            return -3;
        }

        void comesOf(int x, TreeSet<Integer> all) {
            if (!all.add(x)) {
                return;
            }
            int[] n = nodes.get(x);
            if (n[0] == 't' || n[0] == 'o' || n[0] == 'u') {
                comesOf(n[2], all);
            }
            if (n[0] == 't') {
                comesOf(n[3], all);
            }
        }

        int base(int x) {
            long t = chosen(x);
            return t < 0 ? 0 : bases.get((int) t);
        }

        Number number(int x) throws NoValue {
            TreeSet<Integer> all = new TreeSet<>();
            comesOf(x, all);
            for (int n : all) {
                if (base(n) == 0 || nodes.get(n)[0] == 's') {
                    throw new NoValue();
                }
            }
            Number[] done = new Number[60];
            for (int n : all) {
                done[n] = reckon(n, done);
            }
            return done[x];
        }

        static Number of(int base, long v) {
            switch (base) {
                case 1: return (int) v;
                case 2: return v;
                case 3: return (float) v;
                default: return (double) v;
            }
        }

        Number reckon(int x, Number[] done) {
            int[] n = nodes.get(x);
            int base = base(x);
            if (n[0] == 'w') {
                return of(base, n[2]);
            }
            if (n[0] == 'p') {
                double d = n[2] / Double.parseDouble("1e" + n[3]);
                return base == 3 ? (Number) (float) d : (Number) d;
            }
            Number a = done[n[2]];
            if (n[0] == 't') {
                return twoOf(base, n[1], a, done[n[3]]);
            }
            if (n[0] == 'o') {
                return oneOf(base, n[1], a);
            }
            if (n[1] == 0) {
                return of(base, a.longValue());
            }
            if (n[1] == 1) {
                double d = a.doubleValue();
                return base == 1 ? (Number) (int) d : (Number) (long) d;
            }
            return base == 3 ? (Number) (float) a.doubleValue() : (Number) a.doubleValue();
        }

        static Number twoOf(int base, int kind, Number p, Number q) {
            if (base == 1) {
                int a = p.intValue();
                int b = q.intValue();
                switch (kind) {
                    case 0: return a + b;
                    case 1: return a - b;
                    case 2: return a * b;
                    case 4: return a / b;
                    case 5: return a % b;
                    case 6: return a <= b ? a : b;
                    default: return a <= b ? b : a;
                }
            }
            if (base == 2) {
                long a = p.longValue();
                long b = q.longValue();
                switch (kind) {
                    case 0: return a + b;
                    case 1: return a - b;
                    case 2: return a * b;
                    case 4: return a / b;
                    case 5: return a % b;
                    case 6: return a <= b ? a : b;
                    default: return a <= b ? b : a;
                }
            }
            if (base == 3) {
                float a = p.floatValue();
                float b = q.floatValue();
                switch (kind) {
                    case 0: return a + b;
                    case 1: return a - b;
                    case 2: return a * b;
                    case 3: return a / b;
                    case 6: return a <= b ? a : b;
                    default: return a <= b ? b : a;
                }
            }
            double a = p.doubleValue();
            double b = q.doubleValue();
            switch (kind) {
                case 0: return a + b;
                case 1: return a - b;
                case 2: return a * b;
                case 3: return a / b;
                case 6: return a <= b ? a : b;
                default: return a <= b ? b : a;
            }
        }

        static Number oneOf(int base, int kind, Number p) {
            if (base == 1) {
                int a = p.intValue();
                return kind == 0 ? -a : kind == 1 ? Math.abs(a) : Integer.signum(a);
            }
            if (base == 2) {
                long a = p.longValue();
                return kind == 0 ? -a : kind == 1 ? Math.abs(a) : (long) Long.signum(a);
            }
            if (base == 3) {
                float a = p.floatValue();
                return kind == 0 ? -a : kind == 1 ? Math.abs(a) : Math.signum(a);
            }
            double a = p.doubleValue();
            return kind == 0 ? -a : kind == 1 ? Math.abs(a) : Math.signum(a);
        }

        long value(int x) {
            if (!node(x)) {
                return Long.MIN_VALUE;
            }
            try {
                Number n = number(x);
                return n instanceof Float ? Float.floatToIntBits(n.floatValue())
                    : n instanceof Double ? Double.doubleToLongBits(n.doubleValue()) : n.longValue();
            } catch (NoValue e) {
                return Long.MIN_VALUE;
            }
        }

        long compare(int x, int y) {
            if (!node(x) || !node(y)) {
                return -1;
            }
            if (of(x) != of(y)) {
                return -3;
            }
            try {
                Number a = number(x);
                Number b = number(y);
                if (a instanceof Integer || a instanceof Long) {
                    return 1 + Long.compare(a.longValue(), b.longValue());
                }
                double d = a.doubleValue();
                double e = b.doubleValue();
                return d < e ? 0 : d == e ? 1 : d > e ? 2 : 3;
            } catch (NoValue | ArithmeticException e) {
                return -3;
            }
        }
    }

    private static final long THREW = 0x7ff0123456789abcL;
    private static final int[] NUMBERS = {0, 1, -1, 2, 7, 10, 1000000, Integer.MAX_VALUE, Integer.MIN_VALUE,
        16777217, -123456789};

    private static int wrong = 0;
    private static long values = 0;
    private static long throwing = 0;
    private static long oddOnes = 0;
    private static long infiniteOnes = 0;
    private static long tinyOnes = 0;

    private final Random random;
    private final DefaultRules rules = new DefaultRules();
    private final Model model = new Model();
    private final StringBuilder told = new StringBuilder();
    private final int style;
    /** Whether floats are mostly small ones, multiplied. */
    private final boolean tiny;

    private RandomRunsTest(int run) {
        random = new Random(run);
        // By the run's number: the first draws of seeds that lie close are much alike.
        style = run % 4;
        tiny = run % 8 == 1;
    }

    public static void main(String[] args) {
        for (int run = 0; run < RUNS && wrong < 5; run++) {
            new RandomRunsTest(run).run(run);
        }
        System.out.println(values + " values, " + throwing + " thrown, " + oddOnes + " no numbers, "
            + infiniteOnes + " infinite, " + tinyOnes + " below the normal ones");
        if (wrong == 0 && (values == 0 || throwing == 0 || oddOnes == 0 || infiniteOnes == 0 || tinyOnes == 0)) {
            wrong++;
            System.out.println("the runs do not reach all kinds of values");
        }
        System.out.println(wrong == 0 ? "all runs are as due" : wrong + " runs are not as due");
        if (wrong != 0) {
            System.exit(1);
        }
    }

    private void run(int number) {
        for (int i = 0; i < CALLS; i++) {
            boolean careful = style != 0 && random.nextInt(40) != 0;
            int[] next = careful ? carefulCall() : wildCall();
            int call = next[0];
            int a = next[1];
            int b = next[2];
            int c = next[3];
            long want = answer(call, a, b, c, false);
            long got = answer(call, a, b, c, true);
            told.append(call).append('(').append(a).append(',').append(b).append(',').append(c)
                .append(") ").append(got).append('\n');
            if (got != want) {
                wrong++;
                System.out.println("run " + number + ", last is wrong, due is " + want + "\n" + told);
                return;
            }
            count(call, a, got);
        }
    }

    private void count(int call, int x, long got) {
        if (call != 20 || !model.node(x) || got == Long.MIN_VALUE) {
            return;
        }
        values++;
        if (got == THREW) {
            throwing++;
            return;
        }
        int base = model.base(x);
        if (base < 3) {
            return;
        }
        double d = base == 3 ? Float.intBitsToFloat((int) got) : Double.longBitsToDouble(got);
        oddOnes += d != d ? 1 : 0;
        infiniteOnes += Double.isInfinite(d) ? 1 : 0;
        double least = base == 3 ? Float.MIN_NORMAL : Double.MIN_NORMAL;
        tinyOnes += d != 0 && Math.abs(d) < least ? 1 : 0;
    }

    private int[] wildCall() {
        int call = random.nextInt(22);
        // Wild calls of the other styles do not leave most groups without a type.
        if (style != 0 && (call == 4 || call == 8 || call == 9 || call >= 12 && call <= 14)) {
            call = 15;
        }
        return new int[] {call, argument(call, 0), argument(call, 1), argument(call, 2)};
    }

    /** A call after which its nodes still have a value: style 1 has floats, 2 whole numbers, 3 both. */
    private int[] carefulCall() {
        if (model.nodes.size() < 4) {
            return style == 1 || style == 3 && random.nextBoolean()
                ? new int[] {7, number(), powerOfTen(), 0} : new int[] {6, number(), 0, 0};
        }
        int x = anyNode();
        if (!model.node(x)) {
            return new int[] {20, x, 0, 0};
        }
        int base = model.base(x);
        boolean floats = base >= 3;
        switch (random.nextInt(12)) {
            case 0: return new int[] {floats ? 7 : 6, number(), powerOfTen(), 0};
            case 1: return new int[] {10, random.nextInt(3), x, 0};
            case 2: return new int[] {style == 3 ? 11 : 21, style == 3 ? turnOf(floats) : x, x, 0};
            case 3: return new int[] {13, x, random.nextInt(6) == 0 ? floats ? 3 : 1 : base == 0 ? 2 : base, 0};
            case 4: case 5: case 6: return carefulTwo(x, floats);
            case 7: return new int[] {21, x, alike(x), 0};
            case 8: return new int[] {18, x, 0, 0};
            default: return new int[] {20, x, 0, 0};
        }
    }

    private int turnOf(boolean floats) {
        return floats ? 1 + random.nextInt(2) : 2 * random.nextInt(2);
    }

    private int[] carefulTwo(int x, boolean floats) {
        int[] ofFloats = {0, 1, 2, 2, 2, 3, 3, 3, 6, 7};
        int[] ofWholes = {0, 1, 2, 4, 5, 6, 7};
        int[] kinds = tiny ? new int[] {2, 2, 2, 2, 0, 1} : floats ? ofFloats : ofWholes;
        return new int[] {9, kinds[random.nextInt(kinds.length)], x, alike(x)};
    }

    /** A node whose base is like that of x, whole or not, if one is soon found. */
    private int alike(int x) {
        for (int i = 0; i < 20; i++) {
            int y = anyNode();
            if (model.node(y) && model.base(y) != 0 && model.base(y) >= 3 == model.base(x) >= 3) {
                return y;
            }
        }
        return x;
    }

    private int anyNode() {
        int size = model.nodes.size();
        if (random.nextInt(25) == 0 || size == 0) {
            return random.nextInt(64) - 2;
        }
        // The newest nodes are named more, so that what comes of them grows deep.
        return random.nextBoolean() ? size - 1 - random.nextInt(Math.min(size, 4)) : random.nextInt(size);
    }

    private int upTo(int bound) {
        return random.nextInt(20) == 0 ? random.nextInt(bound + 4) - 2 : random.nextInt(bound);
    }

    private int powerOfTen() {
        return tiny ? 6 : 1 + random.nextInt(6);
    }

    private int number() {
        if (tiny) {
            return random.nextInt(2000) - 1000;
        }
        return random.nextBoolean() ? NUMBERS[random.nextInt(NUMBERS.length)] : random.nextInt();
    }

    private int anyFamily() {
        return upTo(model.supers.size());
    }

    private int anyType() {
        return upTo(model.bases.size());
    }

    private int argument(int call, int place) {
        if (place == 0) {
            switch (call) {
                case 0: return random.nextInt(10) == 0 ? random.nextInt() : random.nextInt(1 << model.supers.size()) & random.nextInt(4096);
                case 1: return upTo(5);
                case 2: case 3: return anyFamily();
                case 4: return random.nextInt(5) == 0 ? -1 : anyType();
                case 5: return random.nextInt(2);
                case 6: case 7: return number();
                case 9: return upTo(8);
                case 10: case 11: return upTo(3);
                default: return anyNode();
            }
        }
        if (place == 1) {
            switch (call) {
                case 0: return random.nextInt(2);
                case 2: case 3: case 13: return anyType();
                case 7: return 1 + upTo(6);
                case 12: return anyFamily();
                case 17: return upTo(2);
                case 19: return random.nextInt(9) - 2;
                default: return anyNode();
            }
        }
        return anyNode();
    }

    private long answer(int call, int a, int b, int c, boolean real) {
        DefaultRules r = rules;
        Model m = model;
        try {
            switch (call) {
                case 0: return real ? r.family(a, b == 1) : m.family(a, b == 1);
                case 1: return real ? r.type(a) : m.type(a);
                case 2: return real ? r.instance(a, b) : m.instance(a, b);
                case 3: return real ? r.has(a, b) : m.has(a, b);
                case 4: return real ? r.list(a) : m.list(a);
                case 5: return real ? r.wider(a == 1) : m.wider(a == 1);
                case 6: return real ? r.whole(a) : m.whole(a);
                case 7: return real ? r.part(a, b) : m.part(a, b);
                case 8: return real ? r.some() : m.some();
                case 9: return real ? r.two(a, b, c) : m.two(a, b, c);
                case 10: return real ? r.one(a, b) : m.one(a, b);
                case 11: return real ? r.turn(a, b) : m.turn(a, b);
                case 12: return real ? r.need(a, b) : m.need(a, b);
                case 13: return real ? r.tell(a, b) : m.tell(a, b);
                case 14: return real ? r.fix(a) : m.fix(a);
                case 15: return real ? r.group(a) : m.group(a);
                case 16: return real ? r.needs(a, b) : m.needs(a, b);
                case 17: return real ? r.needs(a, b) : m.needs(a, b);
                case 18: return real ? r.chosen(a) : m.chosen(a);
                case 19: return real ? r.lacks(a, b) : m.lacks(a, b);
                case 20: return real ? r.value(a) : m.value(a);
                default: return real ? r.compare(a, b) : m.compare(a, b);
            }
        } catch (ArithmeticException e) {
            return THREW;
        }
    }
}
