/** What numbers come to at their edges: wrap-around, by 0, the least ones, -0, what is no number. */
public final class NumbersEdgesTest {
    private static final int MIN = Make.MIN;
    private static final int MAX = Make.MAX;
    private static final double INFINITE = 1 / 0.0;
    private static final double NO_NUMBER = 0.0 / 0.0;

    public static void main(String[] args) {
        wholeAndPart();
        wrapAround();
        byZero();
        ofFloats();
        lesserAndGreater();
        ones();
        turnedToNumber();
        turnedCut();
        turnedToFloats();
        bits();
        Sheet.end();
    }

    /** All numbers that have an edge, as nodes of one group of FLOAT or DOUBLE. */
    private static int[] edgeNodes(DefaultRules r, int type) {
        int zero = Make.zero(r, type);
        int one = r.part(10, 1);
        int infinite = r.two(3, one, zero);
        return new int[] {zero, r.one(0, zero), one, r.one(0, one), infinite, r.one(0, infinite),
            r.two(3, zero, zero)};
    }

    private static final double[] EDGES = {0.0, -0.0, 1.0, -1.0, INFINITE, -INFINITE, NO_NUMBER};

    private static void wholeAndPart() {
        Sheet.sentence("WHOLE v: v", () -> {
            DefaultRules r = new DefaultRules();
            for (int v : new int[] {0, 1, -1, MAX, MIN, MIN + 1}) {
                Sheet.due("as an int", r.value(Make.whole(r, v, 1)), v);
                Sheet.due("as a long", r.value(Make.whole(r, v, 2)), v);
                Sheet.dueFloat(r, Make.whole(r, v, 3), v);
                Sheet.dueDouble(r, Make.whole(r, v, 4), v);
            }
        });
        Sheet.sentence("PART v, k: v by 10.0 to the k, as a double", () -> {
            int power = 1;
            for (int k = 1; k <= 6; k++) {
                power *= 10;
                DefaultRules r = new DefaultRules();
                for (int v : new int[] {0, 1, 3, -3, MAX, MIN}) {
                    Sheet.dueDouble(r, r.part(v, k), v / (double) power);
                }
            }
        });
        Sheet.sentence("then as a float, if it is one", () -> {
            DefaultRules r = new DefaultRules();
            Sheet.dueFloat(r, Make.part(r, 16777217, 1, 3), (float) (16777217 / 10.0));
            Sheet.due("by floats alone it is another", 16777217f / 10f == (float) (16777217 / 10.0) ? 1 : 0, 0);
            Sheet.dueFloat(r, Make.part(r, MIN, 6, 3), (float) (MIN / 1000000.0));
            Sheet.dueFloat(r, Make.part(r, 0, 6, 3), 0f);
        });
        Sheet.sentence("SOME: it has no value", () -> {
            DefaultRules r = new DefaultRules();
            for (int t = 1; t <= 4; t++) {
                int x = Make.told(r, r.some(), t);
                Sheet.due("chosen", r.chosen(x), t);
                Sheet.dueNothing(r, x);
                Sheet.dueNothing(r, r.one(0, x));
            }
        });
    }

    private static void wrapAround() {
        Sheet.sentence("0 +, of ints that wrap", () -> {
            DefaultRules r = new DefaultRules();
            Sheet.due("up", r.value(r.two(0, Make.whole(r, MAX, 1), r.whole(1))), MIN);
            Sheet.due("down", r.value(r.two(0, Make.whole(r, MIN, 1), r.whole(-1))), MAX);
            int x = Make.whole(r, MIN, 1);
            Sheet.due("twice the least", r.value(r.two(0, x, x)), 0);
        });
        Sheet.sentence("0 +, of longs that wrap", () -> {
            DefaultRules r = new DefaultRules();
            Sheet.due("up", r.value(r.two(0, Make.greatestLong(r), r.whole(1))), Long.MIN_VALUE);
            Sheet.due("down", r.value(r.two(0, Make.leastLong(r), r.whole(-1))), Long.MAX_VALUE);
            Sheet.due("an int's bound is none", r.value(r.two(0, r.whole(MAX), r.whole(1))), MAX + 1L);
        });
        Sheet.sentence("1 -, of ints that wrap", () -> {
            DefaultRules r = new DefaultRules();
            Sheet.due("down", r.value(r.two(1, Make.whole(r, MIN, 1), r.whole(1))), MAX);
            Sheet.due("0 less the least", r.value(r.two(1, Make.whole(r, 0, 1), r.whole(MIN))), MIN);
        });
        Sheet.sentence("1 -, of longs that wrap", () -> {
            DefaultRules r = new DefaultRules();
            Sheet.due("down", r.value(r.two(1, Make.leastLong(r), r.whole(1))), Long.MAX_VALUE);
            Sheet.due("0 less the least", r.value(r.two(1, r.whole(0), Make.leastLong(r))), Long.MIN_VALUE);
            Sheet.due("an int's bound is none", r.value(r.two(1, r.whole(MIN), r.whole(1))), MIN - 1L);
        });
        Sheet.sentence("2 *, of ints that wrap", () -> {
            DefaultRules r = new DefaultRules();
            Sheet.due("the least by -1", r.value(r.two(2, Make.whole(r, MIN, 1), r.whole(-1))), MIN);
            int x = Make.whole(r, MAX, 1);
            Sheet.due("the greatest squared", r.value(r.two(2, x, x)), 1);
            int y = Make.whole(r, 1 << 16, 1);
            Sheet.due("2 to the 32", r.value(r.two(2, y, y)), 0);
            Sheet.due("low bits alone", r.value(r.two(2, Make.whole(r, 123456789, 1), r.whole(987654321))),
                123456789 * 987654321);
        });
        Sheet.sentence("2 *, of longs that wrap", () -> {
            DefaultRules r = new DefaultRules();
            Sheet.due("the least by -1", r.value(r.two(2, Make.leastLong(r), r.whole(-1))), Long.MIN_VALUE);
            int x = Make.greatestLong(r);
            Sheet.due("the greatest squared", r.value(r.two(2, x, x)), 1);
            int y = Make.powerOfTwo(r, 32, 2);
            Sheet.due("2 to the 64", r.value(r.two(2, y, y)), 0);
        });
        Sheet.sentence("what wraps is wrapped at each NODE", () -> {
            DefaultRules r = new DefaultRules();
            int x = Make.whole(r, MAX, 1);
            int y = r.two(0, x, r.whole(1));
            Sheet.due("the quotient of what wrapped", r.value(r.two(4, y, r.whole(2))), MIN / 2);
            Sheet.due("compare", r.compare(y, x), 0);
            Sheet.due("as a number of LONG", r.value(Make.told(r, r.turn(0, y), 2)), MIN);
        });
    }

    private static void byZero() {
        Sheet.sentence("4 the quotient, cut", () -> {
            DefaultRules r = new DefaultRules();
            for (int type = 1; type <= 2; type++) {
                Sheet.due("7 by 2", r.value(r.two(4, Make.whole(r, 7, type), r.whole(2))), 3);
                Sheet.due("-7 by 2", r.value(r.two(4, Make.whole(r, -7, type), r.whole(2))), -3);
                Sheet.due("7 by -2", r.value(r.two(4, Make.whole(r, 7, type), r.whole(-2))), -3);
                Sheet.due("-7 by -2", r.value(r.two(4, Make.whole(r, -7, type), r.whole(-2))), 3);
                Sheet.due("0 by -2", r.value(r.two(4, Make.whole(r, 0, type), r.whole(-2))), 0);
            }
        });
        Sheet.sentence("the quotient of the least and -1 wraps", () -> {
            DefaultRules r = new DefaultRules();
            Sheet.due("int", r.value(r.two(4, Make.whole(r, MIN, 1), r.whole(-1))), MIN);
            Sheet.due("the least int as a long", r.value(r.two(4, r.whole(MIN), r.whole(-1))), -(long) MIN);
            Sheet.due("long", r.value(r.two(4, Make.leastLong(r), r.whole(-1))), Long.MIN_VALUE);
        });
        Sheet.sentence("5 the rest", () -> {
            DefaultRules r = new DefaultRules();
            for (int type = 1; type <= 2; type++) {
                Sheet.due("7 by 2", r.value(r.two(5, Make.whole(r, 7, type), r.whole(2))), 1);
                Sheet.due("-7 by 2", r.value(r.two(5, Make.whole(r, -7, type), r.whole(2))), -1);
                Sheet.due("7 by -2", r.value(r.two(5, Make.whole(r, 7, type), r.whole(-2))), 1);
                Sheet.due("-7 by -2", r.value(r.two(5, Make.whole(r, -7, type), r.whole(-2))), -1);
            }
            Sheet.due("the least int and -1", r.value(r.two(5, Make.whole(r, MIN, 1), r.whole(-1))), 0);
            Sheet.due("the least long and -1", r.value(r.two(5, Make.leastLong(r), r.whole(-1))), 0);
        });
        Sheet.sentence("4 by 0: that throws", () -> dueThrowByZero(4));
        Sheet.sentence("5 by 0: that throws", () -> dueThrowByZero(5));
        Sheet.sentence("by 0 of ints: 2 to the 32 is 0 as well", () -> {
            DefaultRules r = new DefaultRules();
            int y = Make.whole(r, 1 << 16, 1);
            Sheet.dueThrow(r, r.two(4, y, r.two(2, y, y)));
            Sheet.dueThrow(r, r.two(5, y, r.two(2, y, y)));
        });
        Sheet.sentence("3 /: by 0 does not throw", () -> {
            for (int type = 3; type <= 4; type++) {
                DefaultRules r = new DefaultRules();
                int[] nodes = edgeNodes(r, type);
                for (int i = 0; i < nodes.length; i++) {
                    Sheet.dueReal(r, type, r.two(3, nodes[i], nodes[0]), EDGES[i] / 0.0);
                    Sheet.dueReal(r, type, r.two(3, nodes[i], nodes[1]), EDGES[i] / -0.0);
                }
            }
        });
    }

    private static void dueThrowByZero(int kind) {
        for (int type = 1; type <= 2; type++) {
            DefaultRules r = new DefaultRules();
            int zero = Make.whole(r, 0, type);
            for (int v : new int[] {0, 1, -1, MAX, MIN}) {
                Sheet.dueThrow(r, r.two(kind, r.whole(v), zero));
            }
        }
    }

    private static void ofFloats() {
        Sheet.sentence("0 +, 1 -, 2 *, 3 / in floats: -0, infinite ones, no number", () -> {
            for (int type = 3; type <= 4; type++) {
                for (int i = 0; i < EDGES.length; i++) {
                    DefaultRules r = new DefaultRules();
                    int[] nodes = edgeNodes(r, type);
                    for (int j = 0; j < EDGES.length; j++) {
                        double a = EDGES[i];
                        double b = EDGES[j];
                        Sheet.dueReal(r, type, r.two(0, nodes[i], nodes[j]), a + b);
                        Sheet.dueReal(r, type, r.two(1, nodes[i], nodes[j]), a - b);
                        Sheet.dueReal(r, type, r.two(2, nodes[i], nodes[j]), a * b);
                        Sheet.dueReal(r, type, r.two(3, nodes[i], nodes[j]), a / b);
                    }
                }
            }
        });
        Sheet.sentence("in floats: too large is infinite", () -> {
            DefaultRules r = new DefaultRules();
            int f = Make.powerOfTwo(r, 127, 3);
            Sheet.dueFloat(r, f, 0x1p127f);
            Sheet.dueFloat(r, r.two(0, f, f), Float.POSITIVE_INFINITY);
            Sheet.dueFloat(r, r.two(1, r.one(0, f), f), Float.NEGATIVE_INFINITY);
            DefaultRules s = new DefaultRules();
            int d = Make.powerOfTwo(s, 1023, 4);
            Sheet.dueDouble(s, d, 0x1p1023);
            Sheet.dueDouble(s, s.two(2, d, s.whole(2)), INFINITE);
            Sheet.dueDouble(s, s.two(2, d, s.whole(-2)), -INFINITE);
        });
        Sheet.sentence("the greatest double, and less than 0, is not infinite yet", () -> {
            DefaultRules r = new DefaultRules();
            int power = Make.powerOfTwo(r, 1023, 4);
            int last = r.two(3, r.two(3, power, Make.whole(r, 1 << 26, 4)), r.whole(1 << 26));
            int max = r.two(0, power, r.two(1, power, last));
            int minus = r.one(0, max);
            int zero = r.two(1, last, last);
            int[] nodes = {max, minus};
            double[] numbers = {Double.MAX_VALUE, -Double.MAX_VALUE};
            for (int i = 0; i < 2; i++) {
                Sheet.dueDouble(r, r.two(2, nodes[i], zero), numbers[i] * 0.0);
                for (int j = 0; j < 2; j++) {
                    Sheet.dueDouble(r, r.two(0, nodes[i], nodes[j]), numbers[i] + numbers[j]);
                    Sheet.dueDouble(r, r.two(1, nodes[i], nodes[j]), numbers[i] - numbers[j]);
                    Sheet.dueDouble(r, r.two(3, nodes[i], nodes[j]), numbers[i] / numbers[j]);
                }
            }
        });
        Sheet.sentence("in floats: too small is 0, or -0", () -> {
            DefaultRules r = new DefaultRules();
            int f = Make.powerOfHalf(r, 149, 3);
            Sheet.dueFloat(r, f, Float.MIN_VALUE);
            Sheet.dueFloat(r, r.two(3, f, r.whole(2)), 0f);
            Sheet.dueFloat(r, r.two(3, f, r.whole(-2)), -0f);
            DefaultRules s = new DefaultRules();
            int d = Make.powerOfHalf(s, 1074, 4);
            Sheet.dueDouble(s, d, Double.MIN_VALUE);
            Sheet.dueDouble(s, s.two(3, d, s.whole(2)), 0.0);
            Sheet.dueDouble(s, s.two(3, d, s.whole(-2)), -0.0);
        });
        Sheet.sentence("of FLOAT each NODE is a float", () -> {
            DefaultRules r = new DefaultRules();
            int big = Make.whole(r, 16777216, 3);
            int sum = r.two(0, r.two(0, big, r.whole(1)), r.whole(1));
            Sheet.dueFloat(r, sum, 16777216f);
            int third = r.two(3, Make.whole(r, 1, 3), r.whole(3));
            Sheet.dueFloat(r, r.two(2, third, third), 1f / 3f * (1f / 3f));
            int wide = Make.powerOfTwo(r, 100, 3);
            Sheet.dueFloat(r, r.two(3, r.two(2, wide, wide), wide), Float.POSITIVE_INFINITY);
        });
    }

    private static void lesserAndGreater() {
        Sheet.sentence("6 x if x is y or less, else y", () -> {
            DefaultRules r = new DefaultRules();
            int[] v = {MIN, -1, 0, 1, MAX};
            for (int a : v) {
                for (int b : new int[] {MIN, 0, MAX}) {
                    Sheet.due("int", r.value(r.two(6, Make.whole(r, a, 1), r.whole(b))), Math.min(a, b));
                }
            }
            DefaultRules s = new DefaultRules();
            Sheet.due("long", s.value(s.two(6, Make.leastLong(s), Make.greatestLong(s))), Long.MIN_VALUE);
            Sheet.due("long", s.value(s.two(6, Make.greatestLong(s), Make.leastLong(s))), Long.MIN_VALUE);
        });
        Sheet.sentence("7 y if x is y or less, else x", () -> {
            DefaultRules r = new DefaultRules();
            int[] v = {MIN, -1, 0, 1, MAX};
            for (int a : v) {
                for (int b : new int[] {MIN, 0, MAX}) {
                    Sheet.due("int", r.value(r.two(7, Make.whole(r, a, 1), r.whole(b))), Math.max(a, b));
                }
            }
            DefaultRules s = new DefaultRules();
            Sheet.due("long", s.value(s.two(7, Make.leastLong(s), Make.greatestLong(s))), Long.MAX_VALUE);
            Sheet.due("long", s.value(s.two(7, Make.greatestLong(s), Make.leastLong(s))), Long.MAX_VALUE);
        });
        Sheet.sentence("6, 7 of 0 and -0: each is the other or less", () -> {
            for (int type = 3; type <= 4; type++) {
                DefaultRules r = new DefaultRules();
                int[] nodes = edgeNodes(r, type);
                Sheet.dueReal(r, type, r.two(6, nodes[0], nodes[1]), 0.0);
                Sheet.dueReal(r, type, r.two(6, nodes[1], nodes[0]), -0.0);
                Sheet.dueReal(r, type, r.two(7, nodes[0], nodes[1]), -0.0);
                Sheet.dueReal(r, type, r.two(7, nodes[1], nodes[0]), 0.0);
            }
        });
        Sheet.sentence("6, 7 of what is no number: it is never y or less", () -> {
            for (int type = 3; type <= 4; type++) {
                DefaultRules r = new DefaultRules();
                int[] nodes = edgeNodes(r, type);
                int no = nodes[6];
                Sheet.dueReal(r, type, r.two(6, no, nodes[2]), 1.0);
                Sheet.dueReal(r, type, r.two(6, nodes[2], no), NO_NUMBER);
                Sheet.dueReal(r, type, r.two(7, no, nodes[2]), NO_NUMBER);
                Sheet.dueReal(r, type, r.two(7, nodes[2], no), 1.0);
                Sheet.dueReal(r, type, r.two(6, no, no), NO_NUMBER);
                Sheet.dueReal(r, type, r.two(7, no, nodes[5]), NO_NUMBER);
            }
        });
    }

    private static void ones() {
        Sheet.sentence("ONE x: 0 -x, of the least int, long: itself", () -> {
            DefaultRules r = new DefaultRules();
            Sheet.due("int", r.value(r.one(0, Make.whole(r, MIN, 1))), MIN);
            Sheet.due("the least int as a long", r.value(r.one(0, r.whole(MIN))), -(long) MIN);
            Sheet.due("long", r.value(r.one(0, Make.leastLong(r))), Long.MIN_VALUE);
            Sheet.due("the greatest int", r.value(r.one(0, Make.whole(r, MAX, 1))), -MAX);
            Sheet.due("0", r.value(r.one(0, r.whole(0))), 0);
        });
        Sheet.sentence("1 without sign (of the least int, long: itself)", () -> {
            DefaultRules r = new DefaultRules();
            Sheet.due("int", r.value(r.one(1, Make.whole(r, MIN, 1))), MIN);
            Sheet.due("one more", r.value(r.one(1, Make.whole(r, MIN + 1, 1))), MAX);
            Sheet.due("the least int as a long", r.value(r.one(1, r.whole(MIN))), -(long) MIN);
            Sheet.due("long", r.value(r.one(1, Make.leastLong(r))), Long.MIN_VALUE);
            Sheet.due("one more", r.value(r.one(1, r.two(0, Make.leastLong(r), r.whole(1)))), Long.MAX_VALUE);
            for (int type = 1; type <= 2; type++) {
                for (int v : new int[] {-2, -1, 0, 1, 5, MAX}) {
                    Sheet.due("of " + v, r.value(r.one(1, Make.whole(r, v, type))), Math.abs(v));
                }
            }
        });
        Sheet.sentence("2 its sign: -1, 0, 1", () -> {
            DefaultRules r = new DefaultRules();
            for (int type = 1; type <= 2; type++) {
                int[] v = {MIN, -1, 0, 1, MAX};
                int[] due = {-1, -1, 0, 1, 1};
                for (int i = 0; i < v.length; i++) {
                    Sheet.due("sign of " + v[i], r.value(r.one(2, Make.whole(r, v[i], type))), due[i]);
                }
            }
            Sheet.due("the least long", r.value(r.one(2, Make.leastLong(r))), -1);
            Sheet.due("the greatest long", r.value(r.one(2, Make.greatestLong(r))), 1);
            // An int's bits of it are all 0.
            Sheet.due("2 to the 32", r.value(r.one(2, Make.powerOfTwo(r, 32, 2))), 1);
        });
        Sheet.sentence("0 -x, of 0, -0, infinite ones, no number", () -> ofEdges(0,
            new double[] {-0.0, 0.0, -1.0, 1.0, -INFINITE, INFINITE, NO_NUMBER}));
        Sheet.sentence("1 without sign, of -0, infinite ones, no number", () -> ofEdges(1,
            new double[] {0.0, 0.0, 1.0, 1.0, INFINITE, INFINITE, NO_NUMBER}));
        Sheet.sentence("2 its sign: of what is no number, of -0, 0: itself", () -> ofEdges(2,
            new double[] {0.0, -0.0, 1.0, -1.0, 1.0, -1.0, NO_NUMBER}));
        Sheet.sentence("2 its sign, of the least float, double", () -> {
            DefaultRules r = new DefaultRules();
            int f = Make.powerOfHalf(r, 149, 3);
            Sheet.dueFloat(r, r.one(2, f), 1f);
            Sheet.dueFloat(r, r.one(2, r.one(0, f)), -1f);
            DefaultRules s = new DefaultRules();
            int d = Make.powerOfHalf(s, 1074, 4);
            Sheet.dueDouble(s, s.one(2, d), 1.0);
            Sheet.dueDouble(s, s.one(2, s.one(0, d)), -1.0);
        });
    }

    private static void ofEdges(int kind, double[] due) {
        for (int type = 3; type <= 4; type++) {
            DefaultRules r = new DefaultRules();
            int[] nodes = edgeNodes(r, type);
            for (int i = 0; i < nodes.length; i++) {
                Sheet.dueReal(r, type, r.one(kind, nodes[i]), due[i]);
            }
        }
    }

    /** 2 to the 62, 2 to the 38, and 1: as a float it goes up, by way of a double down. */
    private static int roundedTwice(DefaultRules r) {
        int high = r.two(0, Make.powerOfTwo(r, 62, 2), Make.powerOfTwo(r, 38, 2));
        return r.two(0, high, r.whole(1));
    }

    private static final long ROUNDED_TWICE = (1L << 62) + (1L << 38) + 1;

    private static void turnedToNumber() {
        Sheet.sentence("TURN 0: of its BASE, as Java casts a long: to an int", () -> {
            DefaultRules r = new DefaultRules();
            int[] nodes = {Make.leastLong(r), Make.greatestLong(r), Make.powerOfTwo(r, 31, 2),
                Make.powerOfTwo(r, 32, 2), Make.whole(r, MIN, 1), Make.whole(r, -1, 1)};
            long[] due = {0, -1, MIN, 0, MIN, -1};
            for (int i = 0; i < nodes.length; i++) {
                Sheet.due("cast " + i, r.value(Make.told(r, r.turn(0, nodes[i]), 1)), due[i]);
            }
        });
        Sheet.sentence("TURN 0: to a long", () -> {
            DefaultRules r = new DefaultRules();
            int[] nodes = {Make.leastLong(r), Make.greatestLong(r), Make.whole(r, MIN, 1), Make.whole(r, MAX, 1)};
            long[] due = {Long.MIN_VALUE, Long.MAX_VALUE, MIN, MAX};
            for (int i = 0; i < nodes.length; i++) {
                Sheet.due("cast " + i, r.value(r.turn(0, nodes[i])), due[i]);
            }
        });
        Sheet.sentence("TURN 0: to a float, rounded once", () -> {
            DefaultRules r = new DefaultRules();
            Sheet.due("rounded twice it is another",
                (float) ROUNDED_TWICE == (float) (double) ROUNDED_TWICE ? 1 : 0, 0);
            Sheet.dueFloat(r, Make.told(r, r.turn(0, roundedTwice(r)), 3), (float) ROUNDED_TWICE);
            Sheet.dueFloat(r, Make.told(r, r.turn(0, Make.leastLong(r)), 3), -0x1p63f);
            Sheet.dueFloat(r, Make.told(r, r.turn(0, Make.greatestLong(r)), 3), 0x1p63f);
            Sheet.dueFloat(r, Make.told(r, r.turn(0, Make.whole(r, 0, 1)), 3), 0f);
        });
        Sheet.sentence("TURN 0: to a double", () -> {
            DefaultRules r = new DefaultRules();
            Sheet.dueDouble(r, Make.told(r, r.turn(0, Make.leastLong(r)), 4), -0x1p63);
            Sheet.dueDouble(r, Make.told(r, r.turn(0, Make.greatestLong(r)), 4), 0x1p63);
            Sheet.dueDouble(r, Make.told(r, r.turn(0, Make.whole(r, MIN, 1)), 4), MIN);
            Sheet.dueDouble(r, Make.told(r, r.turn(0, Make.whole(r, 0, 2)), 4), 0.0);
        });
    }

    private static void turnedCut() {
        Sheet.sentence("TURN 1: cut, towards 0", () -> {
            int[] v = {19, -19, 9, -9, 10, -10, 0};
            for (int type = 3; type <= 4; type++) {
                DefaultRules r = new DefaultRules();
                for (int i : v) {
                    int x = Make.part(r, i, 1, type);
                    Sheet.due("to a long", r.value(r.turn(1, x)), i / 10);
                    Sheet.due("to an int", r.value(Make.told(r, r.turn(1, x), 1)), i / 10);
                }
            }
        });
        Sheet.sentence("TURN 1: of what is no number, -0, infinite ones", () -> {
            for (int type = 3; type <= 4; type++) {
                DefaultRules r = new DefaultRules();
                int[] nodes = edgeNodes(r, type);
                for (int i = 0; i < nodes.length; i++) {
                    Sheet.due("to a long " + i, r.value(r.turn(1, nodes[i])), (long) EDGES[i]);
                    Sheet.due("to an int " + i, r.value(Make.told(r, r.turn(1, nodes[i]), 1)), (int) EDGES[i]);
                }
            }
        });
        Sheet.sentence("TURN 1: too large, too small, as Java casts a double", () -> {
            for (int type = 3; type <= 4; type++) {
                for (int power : new int[] {31, 32, 62, 63, 64, 100}) {
                    DefaultRules r = new DefaultRules();
                    int x = Make.powerOfTwo(r, power, type);
                    int minus = r.one(0, x);
                    double v = Math.pow(2, power);
                    // To an int at once: by way of a long it would wrap.
                    Sheet.due("to an int", r.value(Make.told(r, r.turn(1, x), 1)), MAX);
                    Sheet.due("to an int", r.value(Make.told(r, r.turn(1, minus), 1)), MIN);
                    Sheet.due("to a long", r.value(r.turn(1, x)), (long) v);
                    Sheet.due("to a long", r.value(r.turn(1, minus)), (long) -v);
                }
            }
            DefaultRules r = new DefaultRules();
            int x = r.two(0, r.whole(MAX), Make.part(r, 9, 1, 4));
            Sheet.due("the greatest int and 0.9", r.value(Make.told(r, r.turn(1, x), 1)), MAX);
            int y = r.two(1, r.whole(MIN), Make.part(r, 9, 1, 4));
            Sheet.due("the least int less 0.9", r.value(Make.told(r, r.turn(1, y), 1)), MIN);
        });
    }

    private static void turnedToFloats() {
        Sheet.sentence("TURN 2: by way of a double, as a float", () -> {
            DefaultRules r = new DefaultRules();
            Sheet.dueFloat(r, Make.told(r, r.turn(2, roundedTwice(r)), 3), (float) (double) ROUNDED_TWICE);
            Sheet.dueFloat(r, Make.told(r, r.turn(2, Make.leastLong(r)), 3), -0x1p63f);
            Sheet.dueFloat(r, Make.told(r, r.turn(2, Make.whole(r, 16777217, 1)), 3), 16777216f);
            Sheet.dueFloat(r, Make.told(r, r.turn(2, Make.part(r, 1, 1, 4)), 3), (float) 0.1);
        });
        Sheet.sentence("TURN 2: as a double", () -> {
            DefaultRules r = new DefaultRules();
            Sheet.dueDouble(r, r.turn(2, Make.greatestLong(r)), 0x1p63);
            Sheet.dueDouble(r, r.turn(2, Make.leastLong(r)), -0x1p63);
            Sheet.dueDouble(r, r.turn(2, Make.whole(r, 16777217, 1)), 16777217.0);
            Sheet.dueDouble(r, r.turn(2, Make.part(r, 1, 1, 3)), 0.1f);
        });
        Sheet.sentence("TURN 2: -0, infinite ones, no number", () -> {
            for (int from = 3; from <= 4; from++) {
                for (int to = 3; to <= 4; to++) {
                    DefaultRules r = new DefaultRules();
                    int[] nodes = edgeNodes(r, from);
                    for (int i = 0; i < nodes.length; i++) {
                        Sheet.dueReal(r, to, Make.told(r, r.turn(2, nodes[i]), to), EDGES[i]);
                    }
                }
            }
        });
        Sheet.sentence("TURN 2: a double too large or too small for a float", () -> {
            DefaultRules r = new DefaultRules();
            int large = Make.powerOfTwo(r, 128, 4);
            Sheet.dueFloat(r, Make.told(r, r.turn(2, large), 3), Float.POSITIVE_INFINITY);
            Sheet.dueFloat(r, Make.told(r, r.turn(2, r.one(0, large)), 3), Float.NEGATIVE_INFINITY);
            DefaultRules s = new DefaultRules();
            int small = Make.powerOfHalf(s, 150, 4);
            Sheet.dueFloat(s, Make.told(s, s.turn(2, small), 3), 0f);
            Sheet.dueFloat(s, Make.told(s, s.turn(2, s.one(0, small)), 3), -0f);
            Sheet.dueFloat(s, Make.told(s, s.turn(2, s.two(0, small, small)), 3), Float.MIN_VALUE);
        });
    }

    private static void bits() {
        Sheet.sentence("of FLOAT its bits as an int", () -> {
            DefaultRules r = new DefaultRules();
            int half = Make.powerOfHalf(r, 126, 3);
            Sheet.due("the least normal one", r.value(half), 0x00800000L);
            int below = r.two(3, half, r.whole(2));
            Sheet.due("half of it", r.value(below), 0x00400000L);
            Sheet.due("with a sign it is less than 0", r.value(r.one(0, half)), (int) 0x80800000);
            Sheet.due("1", r.value(Make.part(r, 10, 1, 3)), 0x3f800000L);
            Sheet.due("-0", r.value(Make.minusZero(r, 3)), MIN);
            Sheet.due("infinite", r.value(Make.infinite(r, 3)), 0x7f800000L);
            Sheet.due("minus infinite", r.value(Make.minusInfinite(r, 3)), (int) 0xff800000);
        });
        Sheet.sentence("the greatest float, and the greatest below the least normal one", () -> {
            DefaultRules r = new DefaultRules();
            int power = Make.powerOfTwo(r, 127, 3);
            int rest = r.two(1, power, r.two(3, power, Make.whole(r, 1 << 23, 3)));
            Sheet.dueFloat(r, r.two(0, power, rest), Float.MAX_VALUE);
            DefaultRules s = new DefaultRules();
            int normal = Make.powerOfHalf(s, 126, 3);
            int least = s.two(3, normal, Make.whole(s, 1 << 23, 3));
            Sheet.due("value", s.value(s.two(1, normal, least)), 0x007fffffL);
        });
        Sheet.sentence("of DOUBLE as a long", () -> {
            DefaultRules r = new DefaultRules();
            int half = Make.powerOfHalf(r, 1022, 4);
            Sheet.due("the least normal one", r.value(half), 0x0010000000000000L);
            int below = r.two(3, half, r.whole(2));
            Sheet.due("half of it", r.value(below), 0x0008000000000000L);
            Sheet.due("with a sign", r.value(r.one(0, half)), 0x8010000000000000L);
            Sheet.due("1", r.value(Make.part(r, 10, 1, 4)), 0x3ff0000000000000L);
            Sheet.due("infinite", r.value(Make.infinite(r, 4)), 0x7ff0000000000000L);
            Sheet.due("minus infinite", r.value(Make.minusInfinite(r, 4)), 0xfff0000000000000L);
        });
        Sheet.sentence("the greatest double, and the greatest below the least normal one", () -> {
            DefaultRules r = new DefaultRules();
            int power = Make.powerOfTwo(r, 1023, 4);
            int last = r.two(3, r.two(3, power, Make.whole(r, 1 << 26, 4)), r.whole(1 << 26));
            Sheet.dueDouble(r, r.two(0, power, r.two(1, power, last)), Double.MAX_VALUE);
            DefaultRules s = new DefaultRules();
            int normal = Make.powerOfHalf(s, 1022, 4);
            int least = s.two(3, s.two(3, normal, Make.whole(s, 1 << 26, 4)), s.whole(1 << 26));
            Sheet.dueDouble(s, least, Double.MIN_VALUE);
            Sheet.due("value", s.value(s.two(1, normal, least)), 0x000fffffffffffffL);
        });
        Sheet.sentence("of what is no number 0x7fc00000, 0x7ff8000000000000", () -> {
            DefaultRules r = new DefaultRules();
            int f = Make.noNumber(r, 3);
            Sheet.due("float", r.value(f), 0x7fc00000L);
            Sheet.due("float, -x", r.value(r.one(0, f)), 0x7fc00000L);
            int d = Make.noNumber(r, 4);
            Sheet.due("double", r.value(d), 0x7ff8000000000000L);
            Sheet.due("double, -x", r.value(r.one(0, d)), 0x7ff8000000000000L);
            Sheet.due("turned to float", r.value(Make.told(r, r.turn(2, d), 3)), 0x7fc00000L);
            Sheet.due("turned to double", r.value(r.turn(2, f)), 0x7ff8000000000000L);
        });
        Sheet.sentence("what is no number as a float may be one as a double", () -> {
            DefaultRules r = new DefaultRules();
            // 16777217 less 16777216 by itself: as a float that is 0 by 0.
            int one = r.two(1, r.whole(16777217), r.whole(16777216));
            dueAsTypeChanges(r, one, 3, 4);
        });
        Sheet.sentence("what is no number as a double may be one as a float", () -> {
            DefaultRules r = new DefaultRules();
            // 16777216 and 1 and 1, less 16777218: as a double 0, as a float -2.
            int sum = r.two(0, r.two(0, r.whole(16777216), r.whole(1)), r.whole(1));
            dueAsTypeChanges(r, r.two(1, sum, r.whole(16777218)), 4, 3);
        });
        Sheet.sentence("(Bits of the double -0.0, and the long -2 to the 63, are the same number.)", () -> {
            DefaultRules r = new DefaultRules();
            int zero = Make.minusZero(r, 4);
            int least = Make.leastLong(r);
            Sheet.due("NOTHING", DefaultRules.NOTHING, 0x8000000000000000L);
            Sheet.due("-0.0", r.value(zero), DefaultRules.NOTHING);
            Sheet.due("-0.0 has a value", r.compare(zero, zero), 1);
            Sheet.due("the least long", r.value(least), DefaultRules.NOTHING);
            Sheet.due("the least long has a value", r.compare(least, least), 1);
        });
    }

    /** x by itself and what comes of it: by one type no number, by the other 1, and back again. */
    private static void dueAsTypeChanges(DefaultRules r, int x, int odd, int fine) {
        int by = r.two(3, x, x);
        int[] nodes = {by, r.one(1, by), r.two(0, by, r.part(0, 1)), r.two(6, by, by), r.turn(2, by)};
        for (int type : new int[] {odd, fine, odd, fine}) {
            r.list(-1);
            r.list(type);
            for (int n : nodes) {
                Sheet.dueReal(r, type, n, type == odd ? NO_NUMBER : 1.0);
            }
            Sheet.due("compare", r.compare(by, nodes[1]), type == odd ? 3 : 1);
        }
    }
}
