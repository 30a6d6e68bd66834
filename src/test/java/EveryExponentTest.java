import java.util.Random;

/**
 * Numbers of every size, by a fixed seed: doubles and floats of every exponent, those below the normal
 * ones too, longs of every length; what `value` answers of them and of their TURNs, against Java's own.
 */
public final class EveryExponentTest {
    private static final Random SOURCE = new Random(20261118L);

    private EveryExponentTest() { }

    public static void main(String[] args) {
        Sheet.sentence("of DOUBLE as a long: of every exponent", () -> {
            for (int power = -1130; power <= 1000; power++) {
                for (int i = 0; i < 6; i++) {
                    aDouble(SOURCE.nextInt(), SOURCE.nextInt(1 << 21), power);
                }
            }
        });
        Sheet.sentence("of FLOAT its bits as an int: of every exponent", () -> {
            for (int power = -180; power <= 120; power++) {
                for (int i = 0; i < 40; i++) {
                    aFloat(SOURCE.nextInt() >> 7, power);
                }
            }
        });
        Sheet.sentence("TURN x: 0, 2 of a long of every length", () -> {
            for (int shift = 0; shift < 64; shift++) {
                for (int i = 0; i < 100; i++) {
                    aLong(SOURCE.nextLong() >> shift);
                }
            }
        });
        Sheet.end();
    }

    /** (high * 2 to the 21 + low) * 2 to the power, made of nodes and of Java's doubles alike. */
    private static void aDouble(int high, int low, int power) {
        DefaultRules r = new DefaultRules();
        int digits = Make.sum(r, Make.whole(r, high, 4), 1 << 21, low);
        int x = Make.scaled(r, digits, power);
        double want = (double) high * (1 << 21) + low;
        for (int left = Math.abs(power), by = 1; left > 0; left >>= 1, by <<= 1) {
            if ((left & 1) != 0) {
                want *= Math.scalb(1.0, power < 0 ? -by : by);
            }
        }
        Sheet.dueDouble(r, x, want);
        Sheet.dueFloat(r, Make.told(r, r.turn(2, x), 3), (float) want);
        Sheet.due("cut, as an int, of " + want, r.value(Make.told(r, r.turn(1, x), 1)), (int) want);
        Sheet.due("cut, as a long, of " + want, r.value(Make.told(r, r.turn(1, x), 2)), (long) want);
    }

    private static void aFloat(int digits, int power) {
        DefaultRules r = new DefaultRules();
        int x = Make.scaled(r, Make.whole(r, digits, 3), power);
        float want = digits;
        for (int left = Math.abs(power), by = 1; left > 0; left >>= 1, by <<= 1) {
            if ((left & 1) != 0) {
                want *= Math.scalb(1.0f, power < 0 ? -by : by);
            }
        }
        Sheet.dueFloat(r, x, want);
        Sheet.dueDouble(r, Make.told(r, r.turn(2, x), 4), want);
        Sheet.due("cut, as an int, of " + want, r.value(Make.told(r, r.turn(1, x), 1)), (int) want);
        Sheet.due("cut, as a long, of " + want, r.value(Make.told(r, r.turn(1, x), 2)), (long) want);
    }

    private static void aLong(long v) {
        DefaultRules r = new DefaultRules();
        int top = Make.whole(r, (int) (v >> 32), 2);
        int middle = Make.sum(r, top, 1 << 16, (int) (v >> 16) & 0xffff);
        int x = Make.sum(r, middle, 1 << 16, (int) v & 0xffff);
        Sheet.due("a long of three parts", r.value(x), v);
        Sheet.due("as an int, of " + v, r.value(Make.told(r, r.turn(0, x), 1)), (int) v);
        Sheet.due("as a long, of " + v, r.value(Make.told(r, r.turn(0, x), 2)), v);
        Sheet.dueFloat(r, Make.told(r, r.turn(0, x), 3), (float) v);
        Sheet.dueDouble(r, Make.told(r, r.turn(0, x), 4), (double) v);
        Sheet.dueFloat(r, Make.told(r, r.turn(2, x), 3), (float) (double) v);
        Sheet.dueDouble(r, Make.told(r, r.turn(2, x), 4), (double) v);
    }
}
