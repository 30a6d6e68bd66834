/** Each promise of the document: ordinary inputs, the edges that it names, and wrong inputs. */
public final class PromiseTest {
    private static final int MIN = Integer.MIN_VALUE;
    private static final int MAX = Integer.MAX_VALUE;
    private static final int[] NOT_NODES = {-1, 60, MIN, MAX};

    private static int wrong = 0;
    private static int promise = 0;

    private static void due(String what, long got, long want) {
        if (got != want) {
            wrong++;
            System.out.println("promise " + promise + ": " + what + " answered " + got + ", due is " + want);
        }
    }

    private static void dueDouble(DefaultRules r, int x, double want) {
        due("value(" + x + ")", r.value(x), Double.doubleToLongBits(want));
    }

    private static void dueFloat(DefaultRules r, int x, float want) {
        due("value(" + x + ")", r.value(x), Float.floatToIntBits(want));
    }

    private static void dueThrow(DefaultRules r, int x) {
        boolean threw = false;
        try {
            r.value(x);
        } catch (ArithmeticException e) {
            threw = true;
        }
        due("value(" + x + ") throws", threw ? 1 : 0, 1);
    }

    public static void main(String[] args) {
        Runnable[] promises = {
            PromiseTest::newObject, PromiseTest::family, PromiseTest::type, PromiseTest::instance,
            PromiseTest::has, PromiseTest::list, PromiseTest::wider, PromiseTest::whole,
            PromiseTest::part, PromiseTest::some, PromiseTest::two, PromiseTest::one,
            PromiseTest::turn, PromiseTest::need, PromiseTest::tell, PromiseTest::fix,
            PromiseTest::group, PromiseTest::needs, PromiseTest::chosen, PromiseTest::lacks,
            PromiseTest::value, PromiseTest::compare};
        for (Runnable each : promises) {
            promise++;
            each.run();
        }
        System.out.println(wrong == 0 ? "all answers are as due" : wrong + " answers are not as due");
        if (wrong != 0) {
            System.exit(1);
        }
    }

    /** An object with 60 nodes, all WHOLE, each of a group of its own. */
    private static DefaultRules fullOfNodes() {
        DefaultRules r = new DefaultRules();
        for (int n = 0; n < 60; n++) {
            due("whole", r.whole(n), n);
        }
        return r;
    }

    private static int needing(DefaultRules r, int... families) {
        int x = r.some();
        for (int f : families) {
            due("need", r.need(x, f), 1);
        }
        return x;
    }

    private static void newObject() {
        DefaultRules r = new DefaultRules();
        due("group", r.group(0), -1);
        due("wider", r.wider(false), 0);
        int[][] owned = {{0, 1, 2}, {0, 1, 2, 3, 4, 5}, {0, 1, 2, 3, 4, 5}, {0, 1, 2, 3, 4, 6, 7},
            {0, 1, 2, 3, 4, 6, 7}, {0, 1, 2}};
        for (int t = 0; t < 6; t++) {
            int bits = 0;
            for (int f : owned[t]) {
                bits |= 1 << f;
            }
            for (int f = 0; f < 8; f++) {
                due("has(" + f + ", " + t + ")", r.has(f, t), bits >> f & 1);
            }
        }
        due("has(8, 0)", r.has(8, 0), -1);
        due("has(0, 6)", r.has(0, 6), -1);
        int x = r.whole(1);
        due("node", x, 0);
        due("chosen", r.chosen(x), 2);
        due("need", r.need(x, 6), 1);
        due("chosen", r.chosen(x), 4);
        due("lacks", r.lacks(x, 2), -1);
    }

    private static void family() {
        DefaultRules r = new DefaultRules();
        due("family", r.family(1 << 8, false), -2);
        due("family", r.family(1 << 31, false), -2);
        due("family", r.family(-1, false), -2);
        due("family", r.family(0, true), 8);
        due("family", r.family(1 << 9, true), -2);
        due("family", r.family(1 << 8 | 1 << 7, false), 9);
        due("family", r.family(1 << 9, true), 10);
        due("family", r.family(255, false), 11);
        due("family", r.family(0, true), -4);
        due("family", r.family(1 << 11, true), -4);
        due("family", r.family(1 << 12, true), -2);
        due("family", r.family(1 << 31, true), -2);
        int x = needing(r, 10);
        due("needs", r.needs(x, 1), 1 << 10 | 1 << 9 | 1 << 8 | 1 << 7 | 91);
        // Numeric by a super of a super; standard itself, though what stands above it is not.
        due("chosen", r.chosen(x), -15);
        due("instance", r.instance(8, 4), 1);
        due("instance", r.instance(9, 4), 1);
        due("instance", r.instance(10, 4), 1);
        due("chosen", r.chosen(x), 4);
        due("need", r.need(x, 9), 1);
        due("chosen", r.chosen(x), -13);
    }

    private static void type() {
        DefaultRules r = new DefaultRules();
        due("type", r.type(-1), -2);
        due("type", r.type(5), -2);
        due("type", r.type(MIN), -2);
        due("type", r.type(MAX), -2);
        for (int t = 6; t < 10; t++) {
            due("type", r.type(t - 6), t);
            for (int f = 0; f < 8; f++) {
                due("has", r.has(f, t), 0);
            }
        }
        due("type", r.type(0), -4);
        due("type", r.type(4), -4);
        due("type", r.type(5), -2);
        due("has", r.has(0, 10), -1);
    }

    private static void instance() {
        DefaultRules r = new DefaultRules();
        due("instance", r.instance(-1, 0), -1);
        due("instance", r.instance(8, 0), -1);
        due("instance", r.instance(0, -1), -1);
        due("instance", r.instance(0, 6), -1);
        due("instance", r.instance(MIN, MAX), -1);
        due("instance", r.instance(0, 0), -3);
        due("instance", r.instance(3, 0), -3);
        due("instance", r.instance(6, 0), -3);
        due("instance", r.instance(6, 1), -3);
        due("instance", r.instance(7, 2), -3);
        due("instance", r.instance(5, 3), -3);
        due("instance", r.instance(5, 4), -3);
        int[] bases = {0, 1, 4};
        for (int base : bases) {
            int t = r.type(base);
            due("ORD lacks EQ", r.instance(1, t), -3);
            due("EQ", r.instance(0, t), 1);
            due("ORD", r.instance(1, t), 1);
            due("REAL lacks NUM", r.instance(4, t), -3);
            due("NUM", r.instance(3, t), base == 0 ? -3 : 1);
            due("FRACTIONAL", r.instance(6, t), base == 4 ? 1 : -3);
            due("INTEGRAL lacks REAL", r.instance(5, t), -3);
            due("REALFRAC lacks REAL", r.instance(7, t), -3);
            due("REAL", r.instance(4, t), base == 0 ? -3 : 1);
            due("INTEGRAL", r.instance(5, t), base == 1 ? 1 : -3);
            due("REALFRAC", r.instance(7, t), base == 4 ? 1 : -3);
            due("EQ again", r.instance(0, t), -3);
            due("SHOW", r.instance(2, t), 1);
            due("has SHOW", r.has(2, t), 1);
            due("has NUM", r.has(3, t), base == 0 ? 0 : 1);
        }
        int own = r.family(1 << 2, false);
        due("own class for UNIT", r.instance(own, 0), 1);
        due("has", r.has(own, 0), 1);
        due("has", r.has(own, 5), 0);
        int numeric = r.family(1 << 3, false);
        due("numeric class for TEXT", r.instance(numeric, 5), -3);
        due("numeric class for INT", r.instance(numeric, 1), 1);
        // A class's supers, all of them, may be wanting only at one remove.
        int above = r.family(1 << own, false);
        due("lacks a super", r.instance(above, 5), -3);
        due("own for TEXT", r.instance(own, 5), 1);
        due("above for TEXT", r.instance(above, 5), 1);
    }

    private static void has() {
        DefaultRules r = new DefaultRules();
        due("has", r.has(5, 1), 1);
        due("has", r.has(6, 1), 0);
        due("has", r.has(-1, 0), -1);
        due("has", r.has(0, -1), -1);
        due("has", r.has(8, 0), -1);
        due("has", r.has(0, 6), -1);
        due("has", r.has(32, 0), -1);
        due("has", r.has(MAX, MIN), -1);
    }

    private static void list() {
        DefaultRules r = new DefaultRules();
        int x = r.whole(1);
        due("list", r.list(-2), -1);
        due("list", r.list(6), -1);
        due("list", r.list(MIN), -1);
        due("list", r.list(2), 3);
        due("list", r.list(2), 4);
        due("list", r.list(0), 5);
        due("list", r.list(1), 6);
        due("list", r.list(1), -4);
        due("list", r.list(6), -1);
        due("lacks", r.lacks(x, 5), -3);
        due("lacks", r.lacks(x, 4), 3);
        due("list", r.list(-1), 0);
        due("list", r.list(-1), 0);
        due("chosen", r.chosen(x), -14);
        due("lacks", r.lacks(x, 0), -1);
        due("list", r.list(3), 1);
        due("list", r.list(1), 2);
        due("chosen", r.chosen(x), 3);
    }

    private static void wider() {
        DefaultRules r = new DefaultRules();
        due("wider", r.wider(true), 0);
        due("wider", r.wider(true), 1);
        due("wider", r.wider(false), 1);
        due("wider", r.wider(false), 0);
    }

    private static void whole() {
        DefaultRules r = fullOfNodes();
        due("whole", r.whole(0), -4);
        due("group", r.group(60), -1);
        due("value", r.value(59), 59);
        DefaultRules s = new DefaultRules();
        int[] numbers = {0, 1, -1, MIN, MAX, 16777217, 33554435};
        for (int v : numbers) {
            int x = s.whole(v);
            due("needs", s.needs(x, 0), 8);
            due("value", s.value(x), v);
            int y = s.whole(v);
            s.tell(y, 3);
            dueFloat(s, y, v);
            int z = s.whole(v);
            s.tell(z, 4);
            dueDouble(s, z, v);
        }
    }

    private static void part() {
        DefaultRules r = fullOfNodes();
        due("part", r.part(1, 1), -4);
        due("part", r.part(1, 0), -2);
        DefaultRules s = new DefaultRules();
        due("part", s.part(1, 7), -2);
        due("part", s.part(1, 0), -2);
        due("part", s.part(1, MIN), -2);
        due("part", s.part(1, MAX), -2);
        due("group", s.group(0), -1);
        double[] powers = {1, 10, 100, 1000, 10000, 100000, 1000000};
        int[] numbers = {0, 7, -3, MIN, MAX};
        for (int k = 1; k <= 6; k++) {
            for (int v : numbers) {
                int x = s.part(v, k);
                due("needs", s.needs(x, 0), 64);
                dueDouble(s, x, v / powers[k]);
                due("tell", s.tell(x, 3), 1);
                dueFloat(s, x, (float) (v / powers[k]));
            }
        }
    }

    private static void some() {
        DefaultRules r = fullOfNodes();
        due("some", r.some(), -4);
        DefaultRules s = new DefaultRules();
        due("some", s.some(), 0);
        due("needs", s.needs(0, 0), 0);
        due("needs", s.needs(0, 1), 0);
        due("chosen", s.chosen(0), -12);
        due("tell", s.tell(0, 1), 1);
        due("chosen", s.chosen(0), 1);
        due("value", s.value(0), DefaultRules.NOTHING);
        due("compare", s.compare(0, 0), -3);
    }

    private static void two() {
        DefaultRules r = new DefaultRules();
        int a = r.whole(7);
        int b = r.whole(-2);
        for (int x : NOT_NODES) {
            due("two", r.two(0, x, a), -1);
            due("two", r.two(0, a, x), -1);
            due("two", r.two(-1, a, x), -1);
        }
        due("two", r.two(-1, a, b), -2);
        due("two", r.two(8, a, b), -2);
        due("two", r.two(MIN, a, b), -2);
        due("refusals join nothing", r.group(b), b);
        int[] needs = {8, 8, 8, 64 | 8, 32 | 8, 32 | 8, 2 | 8, 2 | 8};
        long[] longs = {5, 9, -14, 0, -3, 1, -2, 7};
        for (int kind = 0; kind < 8; kind++) {
            DefaultRules s = new DefaultRules();
            due("whole", s.whole(7), 0);
            due("whole", s.whole(-2), 1);
            due("two", s.two(kind, 0, 1), 2);
            due("needs " + kind, s.needs(1, 0), needs[kind]);
            due("group", s.group(2), 0);
            due("group", s.group(1), 0);
            if (kind == 3) {
                dueDouble(s, 2, -3.5);
            } else {
                due("value of kind " + kind, s.value(2), longs[kind]);
            }
        }
        joined();
        refusedInOrder();
        wrapped();
        realsOfTwo();
        divided();
    }

    private static void joined() {
        DefaultRules r = new DefaultRules();
        int a = needing(r, 2);
        int b = needing(r, 5);
        due("fix", r.fix(b), 1);
        due("tell", r.tell(b, 1), 1);
        int c = r.two(0, b, a);
        due("needs", r.needs(c, 0), 4 | 32 | 8);
        due("chosen", r.chosen(a), 1);
        due("fix", r.fix(a), 0);
        due("group", r.group(c), a);
        int d = r.whole(3);
        due("tell", r.tell(d, 1), 1);
        due("told alike", r.two(0, c, d), 4);
        due("group", r.group(d), a);
        due("tell", r.tell(d, 2), -3);
        // Named twice, a node joins nothing.
        due("two", r.two(0, d, d), 5);
        due("group", r.group(5), a);
    }

    private static void refusedInOrder() {
        DefaultRules r = fullOfNodes();
        due("tell", r.tell(0, 1), 1);
        due("tell", r.tell(1, 2), 1);
        due("two", r.two(0, 0, 60), -1);
        due("two", r.two(9, 0, 60), -1);
        due("two", r.two(9, 0, 1), -2);
        due("two", r.two(0, 0, 1), -3);
        due("two", r.two(4, 2, 3), -4);
        due("group", r.group(3), 3);
        due("needs", r.needs(2, 0), 8);
        due("chosen", r.chosen(1), 2);
    }

    private static void wrapped() {
        DefaultRules r = new DefaultRules();
        int min = r.whole(MIN);
        int minus = r.whole(-1);
        int[] made = new int[8];
        for (int kind : new int[] {0, 1, 2, 4, 5, 6, 7}) {
            made[kind] = r.two(kind, min, minus);
        }
        int[] ints = {MAX, MIN + 1, MIN, 0, MIN, 0, MIN, -1};
        long[] longs = {MIN - 1L, MIN + 1L, 2147483648L, 0, 2147483648L, 0, MIN, -1};
        for (int kind : new int[] {0, 1, 2, 4, 5, 6, 7}) {
            due("long of kind " + kind, r.value(made[kind]), longs[kind]);
        }
        // The least long: -2 to the 31 squared, doubled, less than nothing.
        int square = r.two(2, min, min);
        int least = r.two(0, square, square);
        due("least long", r.value(least), Long.MIN_VALUE);
        int less = r.two(0, least, minus);
        due("wraps", r.value(less), Long.MAX_VALUE);
        int quotient = r.two(4, least, minus);
        due("quotient", r.value(quotient), Long.MIN_VALUE);
        int rest = r.two(5, least, minus);
        due("rest", r.value(rest), 0);
        due("compare", r.compare(least, less), 0);
        due("compare", r.compare(quotient, least), 1);
        due("tell", r.tell(min, 1), 1);
        for (int kind : new int[] {0, 1, 2, 4, 5, 6, 7}) {
            due("int of kind " + kind, r.value(made[kind]), ints[kind]);
        }
    }

    private static void realsOfTwo() {
        for (int type = 3; type <= 4; type++) {
            double third = type == 3 ? 1f / 3f : 1.0 / 3.0;
            double[] numbers = {0.0, -0.0, third, 1 / 0.0, -1 / 0.0, 0.0 / 0.0};
            for (int i = 0; i < numbers.length; i++) {
                for (int j = 0; j < numbers.length; j++) {
                    allOfTwo(type, numbers[i], numbers[j], i, j);
                }
            }
        }
    }

    /** A new object for each pair, as one has room for 60 nodes. */
    private static void allOfTwo(int type, double a, double b, int i, int j) {
        DefaultRules r = new DefaultRules();
        int zero = r.part(0, 1);
        int minusZero = r.one(0, zero);
        int third = r.two(3, r.part(10, 1), r.part(30, 1));
        int infinite = r.two(3, third, zero);
        int minusInfinite = r.one(0, infinite);
        int odd = r.two(3, zero, zero);
        int[] nodes = {zero, minusZero, third, infinite, minusInfinite, odd};
        r.tell(zero, type);
        double[] doubles = {a + b, a - b, a * b, a / b, 0, 0, a <= b ? a : b, a <= b ? b : a};
        float f = (float) a;
        float g = (float) b;
        float[] floats = {f + g, f - g, f * g, f / g, 0, 0, f <= g ? f : g, f <= g ? g : f};
        for (int kind : new int[] {0, 1, 2, 3, 6, 7}) {
            int x = r.two(kind, nodes[i], nodes[j]);
            if (type == 3) {
                dueFloat(r, x, floats[kind]);
            } else {
                dueDouble(r, x, doubles[kind]);
            }
        }
        int order = a < b ? 0 : a == b ? 1 : a > b ? 2 : 3;
        int saved = promise;
        promise = 22;
        due("compare", r.compare(nodes[i], nodes[j]), order);
        promise = saved;
    }

    private static void divided() {
        DefaultRules r = new DefaultRules();
        int a = r.whole(-7);
        int b = r.whole(2);
        int zero = r.whole(0);
        due("quotient", r.value(r.two(4, a, b)), -3);
        due("rest", r.value(r.two(5, a, b)), -1);
        dueThrow(r, r.two(4, a, zero));
        dueThrow(r, r.two(5, a, zero));
        dueThrow(r, r.two(4, zero, zero));
        due("0 by 2", r.value(r.two(4, zero, b)), 0);
    }

    private static void one() {
        DefaultRules r = new DefaultRules();
        int a = r.some();
        for (int x : NOT_NODES) {
            due("one", r.one(0, x), -1);
            due("one", r.one(9, x), -1);
        }
        due("one", r.one(-1, a), -2);
        due("one", r.one(3, a), -2);
        due("needs", r.needs(a, 0), 0);
        for (int kind = 0; kind < 3; kind++) {
            DefaultRules s = new DefaultRules();
            int x = s.some();
            due("one", s.one(kind, x), 1);
            due("needs", s.needs(x, 0), 8);
            due("group", s.group(1), 0);
        }
        int[] numbers = {0, 5, -5, MAX, MIN};
        for (int v : numbers) {
            DefaultRules s = new DefaultRules();
            int x = s.whole(v);
            int[] made = {s.one(0, x), s.one(1, x), s.one(2, x)};
            long[] longs = {-(long) v, Math.abs((long) v), Long.signum(v)};
            int[] ints = {-v, v < 0 ? -v : v, Integer.signum(v)};
            for (int kind = 0; kind < 3; kind++) {
                due("one " + kind, s.value(made[kind]), longs[kind]);
            }
            s.tell(x, 1);
            for (int kind = 0; kind < 3; kind++) {
                due("one " + kind, s.value(made[kind]), ints[kind]);
            }
        }
        leastLong();
        realsOfOne();
        DefaultRules full = fullOfNodes();
        due("one", full.one(0, 0), -4);
        due("one", full.one(3, 0), -2);
        due("one", full.one(3, 60), -1);
    }

    private static void leastLong() {
        DefaultRules r = new DefaultRules();
        int min = r.whole(MIN);
        int square = r.two(2, min, min);
        int least = r.two(0, square, square);
        due("without sign", r.value(r.one(1, least)), Long.MIN_VALUE);
        due("negated", r.value(r.one(0, least)), Long.MIN_VALUE);
        due("sign", r.value(r.one(2, least)), -1);
    }

    private static void realsOfOne() {
        for (int type = 3; type <= 4; type++) {
            DefaultRules r = new DefaultRules();
            int zero = r.part(0, 1);
            r.tell(zero, type);
            int minusZero = r.one(0, zero);
            int half = r.part(5, 1);
            int infinite = r.two(3, half, zero);
            int odd = r.two(3, zero, zero);
            int[] nodes = {zero, minusZero, half, r.one(0, half), infinite, r.one(0, infinite), odd};
            double[] numbers = {0.0, -0.0, 0.5, -0.5, 1 / 0.0, -1 / 0.0, 0.0 / 0.0};
            for (int i = 0; i < nodes.length; i++) {
                double[] want = {-numbers[i], Math.abs(numbers[i]), Math.signum(numbers[i])};
                for (int kind = 0; kind < 3; kind++) {
                    int x = r.one(kind, nodes[i]);
                    if (type == 3) {
                        dueFloat(r, x, (float) want[kind]);
                    } else {
                        dueDouble(r, x, want[kind]);
                    }
                }
            }
        }
    }

    private static void turn() {
        DefaultRules r = new DefaultRules();
        int a = r.some();
        for (int x : NOT_NODES) {
            due("turn", r.turn(0, x), -1);
            due("turn", r.turn(3, x), -1);
        }
        due("turn", r.turn(-1, a), -2);
        due("turn", r.turn(3, a), -2);
        due("needs", r.needs(a, 0), 0);
        int[] takes = {32, 128, 16};
        int[] gives = {8, 32, 64};
        for (int kind = 0; kind < 3; kind++) {
            DefaultRules s = new DefaultRules();
            int x = s.some();
            due("turn", s.turn(kind, x), 1);
            due("needs of x", s.needs(x, 0), takes[kind]);
            due("needs of the new one", s.needs(1, 0), gives[kind]);
            due("group", s.group(1), 1);
        }
        DefaultRules full = fullOfNodes();
        due("turn", full.turn(0, 5), -4);
        due("a refusal changes nothing", full.needs(5, 0), 8);
        due("turn", full.turn(3, 5), -2);
        turnedAsNumber();
        turnedCut();
        turnedToFloats();
    }

    private static void turnedAsNumber() {
        DefaultRules r = new DefaultRules();
        // 2 to the 62, plus 2 to the 38, plus 1: a float rounds it up, by way of a double not.
        int p31 = r.one(0, r.whole(MIN));
        int p62 = r.two(2, p31, p31);
        int p38 = r.two(2, r.whole(1 << 19), r.whole(1 << 19));
        int v = r.two(0, r.two(0, p62, p38), r.whole(1));
        long number = (1L << 62) + (1L << 38) + 1;
        due("long", r.value(v), number);
        for (int type = 1; type <= 4; type++) {
            int x = r.turn(0, v);
            due("tell", r.tell(x, type), 1);
            if (type == 1) {
                due("int", r.value(x), (int) number);
            } else if (type == 2) {
                due("long", r.value(x), number);
            } else if (type == 3) {
                dueFloat(r, x, (float) number);
            } else {
                dueDouble(r, x, (double) number);
            }
        }
        int y = r.turn(2, v);
        due("tell", r.tell(y, 3), 1);
        dueFloat(r, y, (float) (double) number);
        due("rounded once and twice differ", (float) number == (float) (double) number ? 1 : 0, 0);
    }

    private static void turnedCut() {
        DefaultRules r = new DefaultRules();
        int zero = r.part(0, 1);
        int big = r.part(MAX, 1);
        int square = r.two(2, big, big);
        int infinite = r.two(3, big, zero);
        int[] nodes = {r.part(-19, 1), r.part(19, 1), big, r.one(0, square), r.two(2, square, square),
            infinite, r.one(0, infinite), r.two(3, zero, zero), zero};
        double b = MAX / 10.0;
        double[] numbers = {-1.9, 1.9, b, -(b * b), b * b * (b * b), 1 / 0.0, -1 / 0.0, 0.0 / 0.0, 0.0};
        for (int i = 0; i < nodes.length; i++) {
            int x = r.turn(1, nodes[i]);
            int y = r.turn(1, nodes[i]);
            due("tell", r.tell(y, 1), 1);
            due("cut to a long", r.value(x), (long) numbers[i]);
            due("cut to an int", r.value(y), (int) numbers[i]);
        }
    }

    private static void turnedToFloats() {
        DefaultRules r = new DefaultRules();
        int seven = r.whole(16777217);
        int third = r.two(3, r.part(1, 1), r.part(3, 1));
        int zero = r.two(1, third, third);
        int odd = r.two(3, zero, zero);
        int minusZero = r.one(0, zero);
        double t = (1 / 10.0) / (3 / 10.0);
        int[] nodes = {seven, third, odd, minusZero, r.two(3, third, minusZero)};
        double[] numbers = {16777217, t, 0.0 / 0.0, -0.0, -1 / 0.0};
        for (int i = 0; i < nodes.length; i++) {
            int x = r.turn(2, nodes[i]);
            dueDouble(r, x, numbers[i]);
            due("tell", r.tell(x, 3), 1);
            dueFloat(r, x, (float) numbers[i]);
            int y = r.turn(2, x);
            dueDouble(r, y, (float) numbers[i]);
        }
    }

    private static void need() {
        DefaultRules r = new DefaultRules();
        int x = r.whole(1);
        int y = r.one(0, x);
        for (int n : NOT_NODES) {
            due("need", r.need(n, 0), -1);
        }
        due("need", r.need(x, -1), -1);
        due("need", r.need(x, 8), -1);
        due("need", r.need(x, 35), -1);
        due("need", r.need(x, 3), 0);
        due("need", r.need(x, 5), 1);
        due("need", r.need(y, 5), 0);
        due("a super of a need is none yet", r.need(y, 4), 1);
        due("needs", r.needs(x, 0), 8 | 32 | 16);
        int own = r.family(0, false);
        due("need", r.need(x, own), 1);
        due("chosen", r.chosen(y), -13);
    }

    private static void tell() {
        DefaultRules r = new DefaultRules();
        int x = r.whole(1);
        int y = r.one(0, x);
        for (int n : NOT_NODES) {
            due("tell", r.tell(n, 0), -1);
        }
        due("tell", r.tell(x, -1), -1);
        due("tell", r.tell(x, 6), -1);
        due("tell", r.tell(x, 0), 1);
        due("chosen", r.chosen(y), -16);
        due("tell", r.tell(y, 0), 1);
        due("tell", r.tell(y, 1), -3);
        due("tell", r.tell(y, 6), -1);
        due("chosen", r.chosen(x), -16);
    }

    private static void fix() {
        DefaultRules r = new DefaultRules();
        int x = r.whole(1);
        int y = r.one(0, x);
        for (int n : NOT_NODES) {
            due("fix", r.fix(n), -1);
        }
        due("fix", r.fix(x), 1);
        due("fix", r.fix(y), 0);
        due("chosen", r.chosen(y), -11);
        due("value", r.value(y), DefaultRules.NOTHING);
        due("tell", r.tell(y, 1), 1);
        due("chosen", r.chosen(x), 1);
        due("value", r.value(y), -1);
    }

    private static void group() {
        DefaultRules r = new DefaultRules();
        for (int n : NOT_NODES) {
            due("group", r.group(n), -1);
        }
        for (int n = 0; n < 6; n++) {
            due("whole", r.whole(n), n);
            due("group", r.group(n), n);
        }
        due("group", r.group(6), -1);
        due("two", r.two(0, 5, 3), 6);
        due("group", r.group(5), 3);
        due("group", r.group(6), 3);
        due("two", r.two(0, 4, 2), 7);
        due("two", r.two(0, 7, 6), 8);
        int[] leaders = {0, 1, 2, 2, 2, 2, 2, 2, 2};
        for (int n = 0; n < 9; n++) {
            due("group", r.group(n), leaders[n]);
        }
        due("turn", r.turn(0, 8), 9);
        due("group", r.group(9), 9);
    }

    private static void needs() {
        DefaultRules r = new DefaultRules();
        int x = r.some();
        for (int n : NOT_NODES) {
            due("needs", r.needs(n, 0), -1);
            due("needs", r.needs(n, 2), -1);
        }
        due("needs", r.needs(x, -1), -2);
        due("needs", r.needs(x, 2), -2);
        int[] with = {1, 3, 4, 8, 27, 59, 72, 219};
        for (int f = 0; f < 8; f++) {
            int y = needing(r, f);
            due("needs", r.needs(y, 0), 1 << f);
            due("needs", r.needs(y, 1), with[f]);
        }
        int own = r.family(1 << 5, true);
        int y = needing(r, own);
        due("needs", r.needs(y, 0), 256);
        due("needs", r.needs(y, 1), 256 | 59);
    }

    private static void chosen() {
        DefaultRules r = new DefaultRules();
        for (int n : NOT_NODES) {
            due("chosen", r.chosen(n), -1);
        }
        int own = r.family(1, false);
        int numeric = r.family(8, true);
        int none = r.some();
        int shown = needing(r, 2);
        int ownOnly = needing(r, own);
        int both = needing(r, own, 3);
        int whole = r.whole(1);
        int never = needing(r, 5, 6);
        int ownNumeric = needing(r, numeric);
        int[] nodes = {none, shown, ownOnly, both, whole, never, ownNumeric};
        int[] narrow = {-12, -12, -12, -13, 2, -15, -15};
        int[] wide = {-12, 2, -12, -15, 2, -15, -15};
        int[] emptyNarrow = {-12, -12, -12, -13, -14, -14, -14};
        int[] emptyWide = {-12, -14, -12, -14, -14, -14, -14};
        allChosen(r, nodes, narrow);
        r.wider(true);
        allChosen(r, nodes, wide);
        r.list(-1);
        allChosen(r, nodes, emptyWide);
        r.wider(false);
        allChosen(r, nodes, emptyNarrow);
        r.list(5);
        r.list(4);
        r.list(2);
        r.wider(true);
        due("instance", r.instance(own, 2), 1);
        due("instance", r.instance(numeric, 2), 1);
        allChosen(r, nodes, new int[] {-12, 5, -12, 2, 4, -15, 2});
        for (int n : nodes) {
            due("fix", r.fix(n), 1);
        }
        allChosen(r, nodes, new int[] {-11, -11, -11, -11, -11, -11, -11});
        for (int n : nodes) {
            due("tell", r.tell(n, 2), 1);
        }
        allChosen(r, nodes, new int[] {2, 2, 2, 2, 2, -16, 2});
        chosenByOneNeed();
    }

    /** Each class as the one need, by both rules. */
    private static void chosenByOneNeed() {
        DefaultRules r = new DefaultRules();
        int[] nodes = new int[8];
        for (int f = 0; f < 8; f++) {
            nodes[f] = needing(r, f);
        }
        allChosen(r, nodes, new int[] {-12, -12, -12, 2, 2, 2, 4, 4});
        r.wider(true);
        allChosen(r, nodes, new int[] {2, 2, 2, 2, 2, 2, 4, 4});
    }

    private static void allChosen(DefaultRules r, int[] nodes, int[] want) {
        for (int i = 0; i < nodes.length; i++) {
            due("chosen " + i, r.chosen(nodes[i]), want[i]);
        }
    }

    private static void lacks() {
        DefaultRules r = new DefaultRules();
        int x = needing(r, 5, 7);
        for (int n : NOT_NODES) {
            due("lacks", r.lacks(n, 0), -1);
        }
        due("lacks", r.lacks(x, -2), -1);
        due("lacks", r.lacks(x, 2), -1);
        due("lacks", r.lacks(x, MIN), -1);
        due("lacks", r.lacks(x, MAX), -1);
        due("lacks", r.lacks(x, 0), 7);
        due("lacks", r.lacks(x, 1), 5);
        due("nothing told", r.lacks(x, -1), -3);
        due("tell", r.tell(x, 5), 1);
        // 5 and 7 are what is needed, as they came: 3, above them, is none of these.
        due("lacks", r.lacks(x, -1), 5);
        int y = r.whole(1);
        due("it has all", r.lacks(y, 0), -3);
        r.tell(y, 2);
        due("it has all", r.lacks(y, -1), -3);
        due("list", r.list(0), 3);
        due("lacks", r.lacks(y, 2), 3);
        due("list", r.list(-1), 0);
        due("no place", r.lacks(y, 0), -1);
        due("told", r.lacks(y, -1), -3);
        due("no need", r.lacks(r.some(), -1), -3);
    }

    private static void value() {
        DefaultRules r = new DefaultRules();
        for (int n : NOT_NODES) {
            due("value", r.value(n), DefaultRules.NOTHING);
        }
        ownTypes();
        nothingBeforeThrow();
        scaled();
    }

    private static void ownTypes() {
        DefaultRules r = new DefaultRules();
        int[] types = new int[5];
        for (int base = 1; base <= 4; base++) {
            types[base] = r.type(base);
            due("instance", r.instance(3, types[base]), 1);
        }
        int[] nodes = new int[5];
        for (int base = 1; base <= 4; base++) {
            int a = r.whole(MAX);
            nodes[base] = r.two(0, a, r.whole(2));
            due("tell", r.tell(a, types[base]), 1);
            due("chosen", r.chosen(nodes[base]), types[base]);
        }
        due("int", r.value(nodes[1]), MIN + 1);
        due("long", r.value(nodes[2]), MAX + 2L);
        dueFloat(r, nodes[3], (float) MAX + 2f);
        dueDouble(r, nodes[4], MAX + 2.0);
        due("compare", r.compare(nodes[3], nodes[3]), 1);
        int least = r.two(6, nodes[1], nodes[1]);
        due("its type has no ORD", r.value(least), DefaultRules.NOTHING);
        due("chosen", r.chosen(least), -16);
        int unit = r.some();
        int lesser = r.two(6, unit, unit);
        r.tell(unit, 0);
        due("chosen", r.chosen(lesser), 0);
        due("no base", r.value(lesser), DefaultRules.NOTHING);
    }

    private static void nothingBeforeThrow() {
        DefaultRules r = new DefaultRules();
        int zero = r.whole(0);
        int thrown = r.two(4, zero, zero);
        dueThrow(r, thrown);
        // Both branches of the lesser one are reckoned.
        int lesser = r.two(6, zero, thrown);
        dueThrow(r, lesser);
        int turned = r.turn(0, thrown);
        dueThrow(r, turned);
        due("compare", r.compare(turned, turned), -3);
        r.need(turned, 5);
        r.need(turned, 6);
        due("no type", r.value(turned), DefaultRules.NOTHING);
        dueThrow(r, thrown);
        int some = r.some();
        int mixed = r.two(0, thrown, some);
        due("no value", r.value(mixed), DefaultRules.NOTHING);
        int other = r.two(0, some, thrown);
        due("no value", r.value(other), DefaultRules.NOTHING);
        int above = r.two(4, mixed, zero);
        due("no value", r.value(above), DefaultRules.NOTHING);
        dueThrow(r, thrown);
        due("a node's value asks only what it comes of", r.value(zero), 0);
        r.fix(zero);
        due("no type", r.value(thrown), DefaultRules.NOTHING);
    }

    /** Down through the least floats and doubles to 0, and up to what is infinite. */
    private static void scaled() {
        for (int type = 3; type <= 4; type++) {
            for (int up = 0; up < 2; up++) {
                for (int v : new int[] {1, 3, 1234567, MAX, MIN}) {
                    scaledFrom(type, up == 1, v);
                }
            }
        }
    }

    private static void scaledFrom(int type, boolean up, int v) {
        DefaultRules r = new DefaultRules();
        int x = r.part(v, 3);
        int by = r.part(type == 3 ? 12345 : 1234567890, 1);
        r.tell(x, type);
        r.tell(by, type);
        double d = v / 1000.0;
        float f = (float) d;
        double dBy = 123456789.0;
        float fBy = (float) 1234.5;
        for (int i = 0; i < 57; i++) {
            x = r.two(up ? 2 : 3, x, by);
            d = up ? d * dBy : d / dBy;
            f = up ? f * fBy : f / fBy;
            if (type == 3) {
                dueFloat(r, x, f);
            } else {
                dueDouble(r, x, d);
            }
        }
    }

    private static void compare() {
        DefaultRules r = new DefaultRules();
        int a = r.whole(1);
        for (int n : NOT_NODES) {
            due("compare", r.compare(n, a), -1);
            due("compare", r.compare(a, n), -1);
        }
        int b = r.whole(2);
        due("not of one group", r.compare(a, b), -3);
        int c = r.two(1, a, b);
        due("compare", r.compare(a, b), 0);
        due("compare", r.compare(b, a), 2);
        due("compare", r.compare(b, b), 1);
        due("compare", r.compare(c, a), 0);
        int some = r.some();
        int with = r.two(0, a, some);
        due("no value", r.compare(a, with), -3);
        due("no value", r.compare(some, a), -3);
        due("compare", r.compare(a, b), 0);
        int by0 = r.two(4, a, r.two(0, a, c));
        due("throws", r.compare(a, by0), -3);
        due("throws", r.compare(by0, a), -3);
        r.fix(a);
        due("no type", r.compare(a, b), -3);
        DefaultRules s = new DefaultRules();
        int zero = s.part(0, 2);
        int minusZero = s.one(0, zero);
        due("0 and -0", s.compare(zero, minusZero), 1);
        due("-0 and 0", s.compare(minusZero, zero), 1);
        int odd = s.two(3, zero, minusZero);
        due("no number", s.compare(odd, odd), 3);
        due("no number", s.compare(zero, odd), 3);
        // The bits of -0.0 are those of NOTHING, and it still has a value.
        due("value", s.value(minusZero), DefaultRules.NOTHING);
    }
}
