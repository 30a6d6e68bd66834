import java.util.Random;

/** An object answers up to its 512th call, and no call throws by itself, then or later. */
public final class CallsTest {
    private static final int CALLS = 512;
    private static final int LATER_CALLS = 20000;

    public static void main(String[] args) {
        Sheet.sentence("An object is used for at most 512 calls: changes up to the last", CallsTest::lastChange);
        Sheet.sentence("the dearest calls, up to the last", CallsTest::dearest);
        Sheet.sentence("what throws, up to the last", CallsTest::throwing);
        Sheet.sentence("refused calls, up to the last", CallsTest::refused);
        Sheet.sentence("what later calls answer is free: they throw nothing but what is told", CallsTest::later);
        Sheet.end();
    }

    /** Nine calls and so many others that what comes is the 512th. */
    private static DefaultRules oneCallLeft() {
        DefaultRules r = new DefaultRules();
        r.family(1 << 3, false);
        r.type(1);
        r.whole(7);
        r.whole(2);
        r.two(0, 0, 1);
        r.some();
        r.wider(true);
        r.wider(false);
        r.part(5, 1);
        for (int call = 9; call < CALLS - 1; call++) {
            r.has(call % 8, call % 6);
        }
        return r;
    }

    private static void lastChange() {
        Sheet.due("family", oneCallLeft().family(0, true), 9);
        Sheet.due("type", oneCallLeft().type(4), 7);
        Sheet.due("instance", oneCallLeft().instance(8, 1), 1);
        Sheet.due("has", oneCallLeft().has(8, 1), 0);
        Sheet.due("list", oneCallLeft().list(6), 3);
        Sheet.due("list, empty", oneCallLeft().list(-1), 0);
        Sheet.due("wider", oneCallLeft().wider(true), 0);
        Sheet.due("whole", oneCallLeft().whole(1), 5);
        Sheet.due("part", oneCallLeft().part(1, 1), 5);
        Sheet.due("some", oneCallLeft().some(), 5);
        Sheet.due("two", oneCallLeft().two(0, 2, 4), 5);
        Sheet.due("one", oneCallLeft().one(0, 2), 5);
        Sheet.due("turn", oneCallLeft().turn(0, 2), 5);
        Sheet.due("need", oneCallLeft().need(2, 8), 1);
        Sheet.due("tell", oneCallLeft().tell(2, 6), 1);
        Sheet.due("fix", oneCallLeft().fix(2), 1);
        Sheet.due("group", oneCallLeft().group(2), 0);
        Sheet.due("needs", oneCallLeft().needs(4, 1), 72);
        Sheet.due("chosen", oneCallLeft().chosen(4), 4);
        Sheet.due("lacks", oneCallLeft().lacks(4, 0), 6);
        Sheet.due("value", oneCallLeft().value(2), 9);
        Sheet.due("compare", oneCallLeft().compare(2, 1), 2);
    }

    /** The value of a node that comes of all others, and its order, with six types that do not fit. */
    private static void dearest() {
        DefaultRules r = new DefaultRules();
        r.part(15, 1);
        double due = 1.5;
        for (int n = 1; n < 60; n++) {
            r.two(0, n - 1, 0);
            due += 1.5;
        }
        for (int t : new int[] {-1, 0, 5, 1, 2, 1, 4}) {
            r.list(t);
        }
        for (int call = 67; call < CALLS - 1; call += 2) {
            Sheet.dueDouble(r, 59, due);
            Sheet.due("compare", r.compare(59, 58), 2);
        }
        Sheet.dueDouble(r, 59, due);
    }

    private static void throwing() {
        DefaultRules r = new DefaultRules();
        r.whole(0);
        r.two(4, 0, 0);
        for (int call = 2; call < CALLS; call++) {
            Sheet.dueThrow(r, 1);
        }
    }

    private static void refused() {
        DefaultRules r = new DefaultRules();
        for (int call = 0; call < CALLS - 2; call += 2) {
            Sheet.due("group", r.group(call), -1);
            Sheet.due("type", r.type(5 + call), -2);
        }
        Sheet.due("type", r.type(0), 6);
        Sheet.due("some", r.some(), 0);
    }

    private static void later() {
        for (int seed = 0; seed < 20; seed++) {
            Random random = new Random(seed);
            DefaultRules r = new DefaultRules();
            int thrown = 0;
            for (int call = 0; call < LATER_CALLS; call++) {
                try {
                    any(r, random);
                } catch (RuntimeException e) {
                    thrown++;
                    System.out.println("call " + call + " of seed " + seed + " throws " + e);
                }
            }
            Sheet.due("calls that throw by themselves, seed " + seed, thrown, 0);
        }
    }

    private static int argument(Random random) {
        switch (random.nextInt(8)) {
            case 0: return random.nextInt();
            case 1: return random.nextBoolean() ? Make.MIN : Make.MAX;
            case 2: return random.nextInt(5) - 2;
            default: return random.nextInt(62) - 1;
        }
    }

    private static void any(DefaultRules r, Random random) {
        int a = argument(random);
        int b = argument(random);
        int c = argument(random);
        boolean on = random.nextBoolean();
        int kind = random.nextInt(12) - 2;
        switch (random.nextInt(22)) {
            case 0: r.family(a, on); break;
            case 1: r.type(kind); break;
            case 2: r.instance(kind, kind == 3 ? b : random.nextInt(10)); break;
            case 3: r.has(a, b); break;
            case 4: r.list(kind); break;
            case 5: r.wider(on); break;
            case 6: r.whole(a); break;
            case 7: r.part(a, kind); break;
            case 8: r.some(); break;
            case 9: case 10: r.two(kind, b, c); break;
            case 11: r.one(kind, b); break;
            case 12: r.turn(kind, b); break;
            case 13: if (random.nextInt(50) == 0) { r.need(a, b); } break;
            case 14: if (random.nextInt(50) == 0) { r.tell(a, b); } break;
            case 15: if (random.nextInt(200) == 0) { r.fix(a); } break;
            case 16: r.group(a); break;
            case 17: r.needs(a, kind); break;
            case 18: r.chosen(a); break;
            case 19: r.lacks(a, kind); break;
            case 20: r.compare(a, b); break;
            default: valueOrThrown(r, a); break;
        }
    }

    private static void valueOrThrown(DefaultRules r, int x) {
        try {
            r.value(x);
        } catch (ArithmeticException e) {
            // Told by the document; the machine's own by 0 is told apart by its message.
            if ("/ by zero".equals(e.getMessage())) {
                throw e;
            }
        }
    }
}
