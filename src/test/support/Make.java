/** Objects and nodes that several tests begin with. */
final class Make {
    static final int MIN = Integer.MIN_VALUE;
    static final int MAX = Integer.MAX_VALUE;

    private Make() { }

    /** A node of a new group that needs these classes alone. */
    static int needing(DefaultRules r, int... classes) {
        int x = r.some();
        for (int f : classes) {
            r.need(x, f);
        }
        return x;
    }

    /** SOME nodes up to the last that there is room for, node 59. */
    static void fill(DefaultRules r) {
        int x = 0;
        while (x >= 0 && x < 59) {
            x = r.some();
        }
    }

    static int told(DefaultRules r, int x, int type) {
        r.tell(x, type);
        return x;
    }

    static int whole(DefaultRules r, int v, int type) {
        return told(r, r.whole(v), type);
    }

    static int part(DefaultRules r, int v, int k, int type) {
        return told(r, r.part(v, k), type);
    }

    /** The least long, of LONG: 2 to the 62 and again, which wraps. */
    static int leastLong(DefaultRules r) {
        int least = whole(r, MIN, 2);
        int square = r.two(2, least, least);
        return r.two(0, square, square);
    }

    /** The greatest long, of LONG: one less than the least. */
    static int greatestLong(DefaultRules r) {
        return r.two(1, leastLong(r), r.whole(1));
    }

    static int zero(DefaultRules r, int type) {
        return part(r, 0, 1, type);
    }

    static int minusZero(DefaultRules r, int type) {
        return r.one(0, zero(r, type));
    }

    static int infinite(DefaultRules r, int type) {
        return r.two(3, part(r, 10, 1, type), r.part(0, 1));
    }

    static int minusInfinite(DefaultRules r, int type) {
        return r.one(0, infinite(r, type));
    }

    static int noNumber(DefaultRules r, int type) {
        int zero = zero(r, type);
        return r.two(3, zero, zero);
    }

    /** 2 to the power, of a type. */
    static int powerOfTwo(DefaultRules r, int power, int type) {
        return raised(r, whole(r, 1, type), whole(r, 2, type), power);
    }

    /** One half to the power, of FLOAT or DOUBLE. */
    static int powerOfHalf(DefaultRules r, int power, int type) {
        return raised(r, part(r, 10, 1, type), part(r, 5, 1, type), power);
    }

    /** x * by + more, of the type of x. */
    static int sum(DefaultRules r, int x, int by, int more) {
        return r.two(0, r.two(2, x, r.whole(by)), r.whole(more));
    }

    /** x * 2 to the power, or by one half to it if it is less than 0; x is of FLOAT or DOUBLE. */
    static int scaled(DefaultRules r, int x, int power) {
        return raised(r, x, power < 0 ? r.part(5, 1) : r.whole(2), Math.abs(power));
    }

    private static int raised(DefaultRules r, int one, int base, int power) {
        int product = one;
        int square = base;
        for (int left = power; left > 0; left >>= 1) {
            if ((left & 1) != 0) {
                product = r.two(2, product, square);
            }
            if (left > 1) {
                square = r.two(2, square, square);
            }
        }
        return product;
    }
}
