import java.util.ArrayList;
import java.util.Arrays;
import java.util.List;

/** Of several refusals the first one is answered, and none of them changes what any call answers. */
public final class RefusalsTest {
    private static final int MIN = Make.MIN;
    private static final int MAX = Make.MAX;
    private static final int CALLS_OF_ONE_OBJECT = 300;
    private static final long THREW = 0x7468726577L;

    /** One call of an object. */
    private interface Call {
        long of(DefaultRules r);
    }

    private static final Call[] LOOKS = looks();
    private static final Call[] STEPS = steps();

    public static void main(String[] args) {
        families();
        typesAndList();
        makers();
        groups();
        whatComes();
        Sheet.end();
    }

    /** All calls that change nothing, with all arguments that matter. */
    private static Call[] looks() {
        List<Call> all = new ArrayList<>();
        for (int f = 0; f <= 12; f++) {
            for (int t = 0; t <= 10; t++) {
                int family = f;
                int type = t;
                all.add(r -> r.has(family, type));
            }
        }
        for (int n = 0; n <= 60; n++) {
            int x = n;
            all.add(r -> r.group(x));
            all.add(r -> r.needs(x, 0));
            all.add(r -> r.needs(x, 1));
            all.add(r -> r.chosen(x));
            all.add(r -> r.value(x));
            for (int p = -1; p <= 6; p++) {
                int place = p;
                all.add(r -> r.lacks(x, place));
            }
            for (int y : new int[] {0, 1, x / 2, x - 1}) {
                all.add(r -> r.compare(x, y));
            }
        }
        return all.toArray(new Call[0]);
    }

    /** Calls that change what is, each for an object of its own: they tell what no look shows. */
    private static Call[] steps() {
        List<Call> all = new ArrayList<>();
        all.add(r -> r.wider(false));
        all.add(r -> r.list(2));
        all.add(r -> r.family(0, true));
        all.add(r -> r.type(0));
        all.add(r -> r.some());
        for (int n = 0; n < 60; n++) {
            int x = n;
            all.add(r -> r.fix(x));
            all.add(r -> r.tell(x, 0));
            all.add(r -> r.tell(x, 1));
        }
        // Whether a class is standard shows by the narrow rule alone.
        for (int f = 8; f < 12; f++) {
            int family = f;
            all.add(r -> {
                r.wider(false);
                r.need(0, 3);
                r.need(0, family);
                return r.chosen(0);
            });
        }
        return all.toArray(new Call[0]);
    }

    private static long answer(Call call, DefaultRules r) {
        try {
            return call.of(r);
        } catch (ArithmeticException e) {
            return THREW;
        }
    }

    private static DefaultRules made(Call story, Call refused) {
        DefaultRules r = new DefaultRules();
        story.of(r);
        if (refused != null) {
            answer(refused, r);
        }
        return r;
    }

    /** All that a story's object answers, with a refused call behind the story, or without (null). */
    private static long[] answers(Call story, Call refused) {
        long[] all = new long[LOOKS.length + STEPS.length];
        DefaultRules r = null;
        for (int i = 0; i < LOOKS.length; i++) {
            if (i % CALLS_OF_ONE_OBJECT == 0) {
                r = made(story, refused);
            }
            all[i] = answer(LOOKS[i], r);
        }
        for (int i = 0; i < STEPS.length; i++) {
            all[LOOKS.length + i] = answer(STEPS[i], made(story, refused));
        }
        return all;
    }

    private static void refused(String name, Call story, Call call, long due) {
        Sheet.due(name, answer(call, made(story, null)), due);
        boolean same = Arrays.equals(answers(story, null), answers(story, call));
        Sheet.due(name + ": it changes nothing", same ? 1 : 0, 1);
        // What is refused stays refused.
        Sheet.due(name + ", again", answer(call, made(story, call)), due);
    }

    /** Some of all there is, with room for more. */
    private static long roomy(DefaultRules r) {
        int own = r.family(1 << 3, false);
        r.family(0, true);
        r.type(2);
        r.instance(3, 6);
        r.instance(own, 2);
        r.list(1);
        r.wider(true);
        int a = r.whole(7);
        int b = r.whole(0);
        r.two(4, a, b);
        int c = Make.part(r, 15, 1, 3);
        r.one(0, c);
        int d = Make.whole(r, 5, 1);
        r.fix(d);
        int e = r.some();
        r.need(e, own);
        r.turn(2, d);
        return Make.told(r, r.some(), 0);
    }

    /** Nothing has room for more. */
    private static long full(DefaultRules r) {
        roomy(r);
        r.family(1, false);
        r.family(2, true);
        r.type(0);
        r.type(3);
        r.type(4);
        r.list(3);
        r.list(0);
        r.list(5);
        Make.fill(r);
        return 0;
    }

    private static long fresh(DefaultRules r) {
        return 0;
    }

    private static void families() {
        Sheet.sentence("2: -2, -4, and -2 ahead of -4", () -> {
            refused("a bit that is no class", RefusalsTest::fresh, r -> r.family(1 << 8, true), -2);
            refused("a bit that is no class", RefusalsTest::roomy, r -> r.family(1 << 10 | 8, false), -2);
            refused("the bit of the sign", RefusalsTest::roomy, r -> r.family(MIN, true), -2);
            refused("no room", RefusalsTest::full, r -> r.family(8, true), -4);
            refused("both", RefusalsTest::full, r -> r.family(1 << 12, true), -2);
        });
        Sheet.sentence("4: -1, -3, and -1 ahead of -3", () -> {
            refused("no class", RefusalsTest::roomy, r -> r.instance(10, 1), -1);
            refused("no type", RefusalsTest::roomy, r -> r.instance(0, 7), -1);
            refused("no class for what has it", RefusalsTest::roomy, r -> r.instance(-1, 0), -1);
            refused("no type for a class 3 to 7", RefusalsTest::roomy, r -> r.instance(5, -1), -1);
            refused("it has it", RefusalsTest::roomy, r -> r.instance(3, 6), -3);
            refused("lacks one of a SUPER", RefusalsTest::roomy, r -> r.instance(4, 6), -3);
            refused("BASE 0", RefusalsTest::roomy, r -> r.instance(3, 0), -3);
            refused("BASE 2", RefusalsTest::roomy, r -> r.instance(6, 6), -3);
            refused("BASE 4", RefusalsTest::roomy, r -> r.instance(5, 4), -3);
        });
        Sheet.sentence("5: -1", () -> {
            refused("no class", RefusalsTest::roomy, r -> r.has(10, 1), -1);
            refused("no type", RefusalsTest::roomy, r -> r.has(0, 7), -1);
        });
    }

    private static void typesAndList() {
        Sheet.sentence("3: -2, -4, and -2 ahead of -4", () -> {
            refused("BASE 5", RefusalsTest::roomy, r -> r.type(5), -2);
            refused("BASE -1", RefusalsTest::fresh, r -> r.type(-1), -2);
            refused("no room", RefusalsTest::full, r -> r.type(4), -4);
            refused("both", RefusalsTest::full, r -> r.type(5), -2);
        });
        Sheet.sentence("6: -1, -4, and -1 ahead of -4", () -> {
            refused("no type", RefusalsTest::roomy, r -> r.list(7), -1);
            refused("no type", RefusalsTest::fresh, r -> r.list(-2), -1);
            refused("no room", RefusalsTest::full, r -> r.list(1), -4);
            refused("both", RefusalsTest::full, r -> r.list(10), -1);
        });
    }

    private static void makers() {
        Sheet.sentence("8, 10: -4", () -> {
            refused("whole", RefusalsTest::full, r -> r.whole(1), -4);
            refused("some", RefusalsTest::full, r -> r.some(), -4);
        });
        Sheet.sentence("9: -2, -4, and -2 ahead of -4", () -> {
            refused("k 0", RefusalsTest::roomy, r -> r.part(1, 0), -2);
            refused("k 7", RefusalsTest::fresh, r -> r.part(1, 7), -2);
            refused("no room", RefusalsTest::full, r -> r.part(1, 1), -4);
            refused("both", RefusalsTest::full, r -> r.part(1, 7), -2);
        });
        Sheet.sentence("11: -1, -2, -3, -4", () -> {
            refused("no y", RefusalsTest::roomy, r -> r.two(0, 0, 60), -1);
            refused("no x", RefusalsTest::roomy, r -> r.two(0, -1, 0), -1);
            refused("kind 8", RefusalsTest::roomy, r -> r.two(8, 0, 3), -2);
            refused("kind -1", RefusalsTest::roomy, r -> r.two(-1, 0, 6), -2);
            refused("told unlike", RefusalsTest::roomy, r -> r.two(0, 3, 5), -3);
            refused("told unlike, UNIT", RefusalsTest::roomy, r -> r.two(6, 8, 5), -3);
            refused("no room", RefusalsTest::full, r -> r.two(3, 0, 6), -4);
            refused("no room, one group", RefusalsTest::full, r -> r.two(6, 0, 0), -4);
        });
        Sheet.sentence("11: -1 ahead of -2, -3, -4", () -> {
            refused("-1, -2", RefusalsTest::roomy, r -> r.two(8, 0, 60), -1);
            refused("-1, -2", RefusalsTest::roomy, r -> r.two(MIN, MAX, 0), -1);
            refused("-1, -4", RefusalsTest::full, r -> r.two(0, 60, 0), -1);
            refused("-1, -2, -4", RefusalsTest::full, r -> r.two(8, 0, -1), -1);
        });
        Sheet.sentence("11: -2 ahead of -3, -4", () -> {
            refused("-2, -3", RefusalsTest::roomy, r -> r.two(8, 3, 5), -2);
            refused("-2, -4", RefusalsTest::full, r -> r.two(-1, 0, 6), -2);
            refused("-2, -3, -4", RefusalsTest::full, r -> r.two(8, 5, 3), -2);
        });
        Sheet.sentence("11: -3 ahead of -4", () ->
            refused("-3, -4", RefusalsTest::full, r -> r.two(0, 3, 5), -3));
        Sheet.sentence("12: -1, -2, -4, in this order", () -> {
            refused("-1", RefusalsTest::roomy, r -> r.one(0, 60), -1);
            refused("-2", RefusalsTest::roomy, r -> r.one(3, 6), -2);
            refused("-4", RefusalsTest::full, r -> r.one(0, 6), -4);
            refused("-1, -2", RefusalsTest::roomy, r -> r.one(3, 60), -1);
            refused("-1, -4", RefusalsTest::full, r -> r.one(0, 60), -1);
            refused("-2, -4", RefusalsTest::full, r -> r.one(-1, 6), -2);
        });
        Sheet.sentence("13: -1, -2, -4, in this order", () -> {
            refused("-1", RefusalsTest::roomy, r -> r.turn(0, 60), -1);
            refused("-2", RefusalsTest::roomy, r -> r.turn(3, 6), -2);
            refused("-1, -2", RefusalsTest::roomy, r -> r.turn(3, 60), -1);
            refused("-1, -4", RefusalsTest::full, r -> r.turn(0, 60), -1);
            refused("-2, -4", RefusalsTest::full, r -> r.turn(-1, 6), -2);
            for (int k = 0; k < 3; k++) {
                int kind = k;
                refused("-4", RefusalsTest::full, r -> r.turn(kind, 6), -4);
            }
        });
    }

    private static void groups() {
        Sheet.sentence("14: -1", () -> {
            refused("no node", RefusalsTest::roomy, r -> r.need(60, 0), -1);
            refused("no class", RefusalsTest::roomy, r -> r.need(0, 10), -1);
            refused("no class", RefusalsTest::full, r -> r.need(0, 12), -1);
            refused("a class beyond the bits of an int", RefusalsTest::roomy, r -> r.need(0, 32), -1);
        });
        Sheet.sentence("15: -1, -3, and -1 ahead of -3", () -> {
            refused("no node", RefusalsTest::roomy, r -> r.tell(60, 1), -1);
            refused("no type", RefusalsTest::roomy, r -> r.tell(0, 7), -1);
            refused("no type -1", RefusalsTest::roomy, r -> r.tell(0, -1), -1);
            refused("another one was", RefusalsTest::roomy, r -> r.tell(3, 4), -3);
            refused("UNIT was", RefusalsTest::roomy, r -> r.tell(8, 4), -3);
            refused("both", RefusalsTest::roomy, r -> r.tell(3, 7), -1);
            refused("both, -1", RefusalsTest::roomy, r -> r.tell(3, -1), -1);
        });
        Sheet.sentence("16: -1", () ->
            refused("no node", RefusalsTest::roomy, r -> r.fix(60), -1));
    }

    private static void whatComes() {
        Sheet.sentence("17, 19: -1", () -> {
            refused("group", RefusalsTest::roomy, r -> r.group(60), -1);
            refused("chosen", RefusalsTest::roomy, r -> r.chosen(-1), -1);
        });
        Sheet.sentence("18: -1, -2, and -1 ahead of -2", () -> {
            refused("no node", RefusalsTest::roomy, r -> r.needs(60, 0), -1);
            refused("what 2", RefusalsTest::roomy, r -> r.needs(0, 2), -2);
            refused("both", RefusalsTest::roomy, r -> r.needs(60, 2), -1);
        });
        Sheet.sentence("20: -1, -3, and -1 ahead of -3", () -> {
            refused("no node", RefusalsTest::roomy, r -> r.lacks(60, 0), -1);
            refused("no place", RefusalsTest::roomy, r -> r.lacks(0, 3), -1);
            refused("no place", RefusalsTest::full, r -> r.lacks(0, 6), -1);
            refused("nothing was TOLD", RefusalsTest::roomy, r -> r.lacks(0, -1), -3);
            refused("it has all", RefusalsTest::roomy, r -> r.lacks(0, 0), -3);
            refused("no node, nothing was TOLD", RefusalsTest::roomy, r -> r.lacks(60, -1), -1);
            refused("no place, nothing was TOLD", RefusalsTest::roomy, r -> r.lacks(0, -2), -1);
        });
        Sheet.sentence("NOTHING stands for all of them where a long is answered", () -> {
            refused("no node", RefusalsTest::roomy, r -> r.value(60), DefaultRules.NOTHING);
            refused("no value", RefusalsTest::roomy, r -> r.value(6), DefaultRules.NOTHING);
            refused("by 0", RefusalsTest::roomy, r -> r.value(2), THREW);
        });
        Sheet.sentence("22: -1, -3, and -1 ahead of -3", () -> {
            refused("no node", RefusalsTest::roomy, r -> r.compare(60, 0), -1);
            refused("not of one GROUP", RefusalsTest::roomy, r -> r.compare(0, 3), -3);
            refused("one has no value", RefusalsTest::roomy, r -> r.compare(6, 6), -3);
            refused("one throws", RefusalsTest::roomy, r -> r.compare(2, 0), -3);
            refused("no x, y has no value", RefusalsTest::roomy, r -> r.compare(60, 6), -1);
            refused("no y, x throws", RefusalsTest::roomy, r -> r.compare(2, 60), -1);
        });
    }
}
