/** Each promise's own edges and refusals, a sentence at a time. */
public final class PromiseEdgesTest {
    private static final int MIN = Make.MIN;
    private static final int MAX = Make.MAX;

    public static void main(String[] args) {
        newObject();
        family();
        type();
        instance();
        has();
        list();
        wider();
        makers();
        two();
        oneAndTurn();
        need();
        tell();
        fix();
        group();
        needs();
        chosen();
        lacks();
        value();
        compare();
        Sheet.end();
    }

    /** What is no node of an object that has so many. */
    private static int[] notNodes(int count) {
        return new int[] {-1, count, count + 1, 60, -60, MIN, MAX};
    }

    private static void newObject() {
        Sheet.sentence("1: No NODES", () -> {
            DefaultRules r = new DefaultRules();
            Sheet.due("two", r.two(0, 0, 0), -1);
            Sheet.due("one", r.one(0, 0), -1);
            Sheet.due("turn", r.turn(0, 0), -1);
            Sheet.due("need", r.need(0, 0), -1);
            Sheet.due("tell", r.tell(0, 1), -1);
            Sheet.due("fix", r.fix(0), -1);
            Sheet.due("group", r.group(0), -1);
            Sheet.due("needs", r.needs(0, 0), -1);
            Sheet.due("chosen", r.chosen(0), -1);
            Sheet.due("lacks", r.lacks(0, 0), -1);
            Sheet.dueNothing(r, 0);
            Sheet.due("compare", r.compare(0, 0), -1);
            Sheet.due("the first one", r.some(), 0);
        });
        Sheet.sentence("1: the narrow rule", () -> {
            DefaultRules r = new DefaultRules();
            Sheet.due("chosen", r.chosen(Make.needing(r, 2)), -12);
            Sheet.due("wider", r.wider(true), 0);
        });
        Sheet.sentence("1: a new object has nothing of another one", () -> {
            DefaultRules r = new DefaultRules();
            r.family(0, true);
            r.type(1);
            r.instance(0, 6);
            r.instance(8, 1);
            r.list(-1);
            r.wider(true);
            Make.fill(r);
            DefaultRules s = new DefaultRules();
            Sheet.due("has", s.has(8, 1), -1);
            Sheet.due("has", s.has(0, 6), -1);
            Sheet.due("wider", s.wider(false), 0);
            Sheet.due("some", s.some(), 0);
            Sheet.due("chosen", s.chosen(s.whole(1)), 2);
            Sheet.due("list", s.list(1), 3);
            Sheet.due("type", s.type(1), 6);
            Sheet.due("has", s.has(0, 6), 0);
            Sheet.due("family", s.family(0, true), 8);
            Sheet.due("has", s.has(8, 1), 0);
        });
    }

    private static void family() {
        Sheet.sentence("2: with SUPERS (bits): its number", () -> {
            DefaultRules r = new DefaultRules();
            Sheet.due("none", r.family(0, true), 8);
            Sheet.due("one", r.family(1 << 8, true), 9);
            Sheet.due("all", r.family((1 << 10) - 1, true), 10);
            Sheet.due("needs of none", r.needs(Make.needing(r, 8), 1), 1 << 8);
            Sheet.due("needs of one", r.needs(Make.needing(r, 9), 1), 3 << 8);
            Sheet.due("needs of all", r.needs(Make.needing(r, 10), 1), (1 << 11) - 1);
        });
        Sheet.sentence("2: -2: a bit that is no class", () -> {
            DefaultRules r = new DefaultRules();
            for (int bit = 8; bit < 32; bit++) {
                Sheet.due("bit " + bit, r.family(1 << bit, true), -2);
                Sheet.due("bit " + bit + " and 0", r.family(1 << bit | 1, true), -2);
            }
            Sheet.due("all bits", r.family(-1, true), -2);
            Sheet.due("the greatest int", r.family(MAX, true), -2);
            Sheet.due("none was made", r.family(0, true), 8);
        });
        Sheet.sentence("2: -4", () -> {
            DefaultRules r = new DefaultRules();
            for (int f = 8; f < 12; f++) {
                Sheet.due("room", r.family(0, false), f);
            }
            Sheet.due("no room", r.family(0, false), -4);
            Sheet.due("no room, all bits that are classes", r.family((1 << 12) - 1, false), -4);
            Sheet.due("no room still", r.family(0, true), -4);
        });
    }

    private static void type() {
        Sheet.sentence("3: A TYPE more: its number", () -> {
            DefaultRules r = new DefaultRules();
            for (int t = 6; t < 10; t++) {
                Sheet.due("type", r.type(t - 5), t);
                for (int f = 0; f < 8; f++) {
                    Sheet.due("it has no instance", r.has(f, t), 0);
                }
            }
        });
        Sheet.sentence("3: -2: BASE", () -> {
            DefaultRules r = new DefaultRules();
            for (int base : new int[] {-1, 5, 6, MIN, MAX}) {
                Sheet.due("type(" + base + ")", r.type(base), -2);
            }
            Sheet.due("the least one", r.type(0), 6);
            Sheet.due("the greatest one", r.type(4), 7);
        });
        Sheet.sentence("3: -4", () -> {
            DefaultRules r = new DefaultRules();
            for (int t = 6; t < 10; t++) {
                Sheet.due("room", r.type(0), t);
            }
            for (int base = 0; base <= 4; base++) {
                Sheet.due("no room", r.type(base), -4);
            }
        });
    }

    private static void instance() {
        Sheet.sentence("4: A TYPE has an instance of a class more: 1", () -> {
            DefaultRules r = new DefaultRules();
            int t = r.type(1);
            Sheet.due("instance", r.instance(2, t), 1);
            for (int f = 0; f < 8; f++) {
                Sheet.due("has(" + f + ")", r.has(f, t), f == 2 ? 1 : 0);
            }
            int own = r.family(0, false);
            Sheet.due("instance", r.instance(own, 0), 1);
            for (int other = 1; other < 7; other++) {
                Sheet.due("another type", r.has(own, other), 0);
            }
        });
        Sheet.sentence("4: -1", () -> {
            DefaultRules r = new DefaultRules();
            for (int f : new int[] {-1, 8, 11, 12, 32, MIN, MAX}) {
                Sheet.due("no class " + f, r.instance(f, 1), -1);
            }
            for (int t : new int[] {-1, 6, 9, 10, 32, MIN, MAX}) {
                Sheet.due("no type " + t, r.instance(0, t), -1);
            }
        });
        Sheet.sentence("4: -3: it has it", () -> {
            DefaultRules r = new DefaultRules();
            Sheet.due("at first", r.instance(0, 0), -3);
            int t = r.type(0);
            Sheet.due("once", r.instance(2, t), 1);
            Sheet.due("twice", r.instance(2, t), -3);
            Sheet.due("has", r.has(2, t), 1);
        });
        Sheet.sentence("4: or lacks one of a SUPER", () -> {
            DefaultRules r = new DefaultRules();
            int whole = r.type(1);
            int part = r.type(4);
            Sheet.due("1 without 0", r.instance(1, whole), -3);
            Sheet.due("4 without 1, 3", r.instance(4, whole), -3);
            r.instance(3, whole);
            Sheet.due("4 without 1", r.instance(4, whole), -3);
            Sheet.due("5 without 4", r.instance(5, whole), -3);
            r.instance(0, part);
            r.instance(1, part);
            Sheet.due("4 without 3", r.instance(4, part), -3);
            Sheet.due("6 without 3", r.instance(6, part), -3);
            r.instance(3, part);
            r.instance(4, part);
            Sheet.due("7 without 6", r.instance(7, part), -3);
            r.instance(6, part);
            Sheet.due("7 with both", r.instance(7, part), 1);
            int other = r.type(3);
            for (int f : new int[] {3, 6}) {
                r.instance(f, other);
            }
            Sheet.due("7 without 4", r.instance(7, other), -3);
        });
        Sheet.sentence("4: lacks one of a SUPER: of classes that came", () -> {
            DefaultRules r = new DefaultRules();
            int above = r.family(0, false);
            int below = r.family(1 << above | 1 << 2, false);
            int last = r.family(1 << below, false);
            Sheet.due("lacks it", r.instance(below, 1), -3);
            Sheet.due("lacks it further up", r.instance(last, 1), -3);
            Sheet.due("the one above", r.instance(above, 1), 1);
            Sheet.due("lacks the nearer one", r.instance(last, 1), -3);
            Sheet.due("below", r.instance(below, 1), 1);
            Sheet.due("last", r.instance(last, 1), 1);
            int numeric = r.family(1 << 3, false);
            Sheet.due("TEXT lacks 3", r.instance(numeric, 5), -3);
        });
        Sheet.sentence("4: a class 3 to 7 with BASE 0", () -> {
            DefaultRules r = new DefaultRules();
            int own = r.type(0);
            for (int f = 0; f < 8; f++) {
                Sheet.due("own type, class " + f, r.instance(f, own), f < 3 ? 1 : -3);
            }
            for (int f = 3; f < 8; f++) {
                Sheet.due("UNIT", r.instance(f, 0), -3);
                Sheet.due("TEXT", r.instance(f, 5), -3);
            }
            Sheet.due("class 8", r.instance(r.family(0, true), own), 1);
        });
        Sheet.sentence("4: 5 with BASE 3, 4", () -> {
            DefaultRules r = new DefaultRules();
            for (int base = 1; base <= 4; base++) {
                int t = r.type(base);
                for (int f : new int[] {0, 1, 2, 3, 4}) {
                    Sheet.due("class " + f, r.instance(f, t), 1);
                }
                Sheet.due("5 with " + base, r.instance(5, t), base <= 2 ? 1 : -3);
                Sheet.due("has", r.has(5, t), base <= 2 ? 1 : 0);
            }
            Sheet.due("FLOAT", r.instance(5, 3), -3);
            Sheet.due("DOUBLE", r.instance(5, 4), -3);
        });
        Sheet.sentence("4: 6 or 7 with BASE 1, 2", () -> {
            DefaultRules r = new DefaultRules();
            for (int base = 1; base <= 4; base++) {
                int t = r.type(base);
                for (int f : new int[] {0, 1, 3, 4}) {
                    Sheet.due("class " + f, r.instance(f, t), 1);
                }
                Sheet.due("6 with " + base, r.instance(6, t), base <= 2 ? -3 : 1);
                Sheet.due("7 with " + base, r.instance(7, t), base <= 2 ? -3 : 1);
                Sheet.due("has 6", r.has(6, t), base <= 2 ? 0 : 1);
                Sheet.due("has 7", r.has(7, t), base <= 2 ? 0 : 1);
            }
            for (int f = 6; f <= 7; f++) {
                Sheet.due("INT", r.instance(f, 1), -3);
                Sheet.due("LONG", r.instance(f, 2), -3);
            }
        });
    }

    private static void has() {
        Sheet.sentence("5: Whether it has: 1, 0", () -> {
            DefaultRules r = new DefaultRules();
            Sheet.due("it has", r.has(5, 2), 1);
            Sheet.due("it has not", r.has(6, 2), 0);
            Sheet.due("the last type and class", r.has(2, 5), 1);
            Sheet.due("no instance by a super alone", r.has(r.family(1, true), 1), 0);
        });
        Sheet.sentence("5: -1", () -> {
            DefaultRules r = new DefaultRules();
            for (int f : new int[] {-1, 8, 11, 12, 32, MIN, MAX}) {
                Sheet.due("no class " + f, r.has(f, 1), -1);
            }
            for (int t : new int[] {-1, 6, 9, 10, 32, MIN, MAX}) {
                Sheet.due("no type " + t, r.has(0, t), -1);
            }
            Sheet.due("neither", r.has(8, 6), -1);
        });
    }

    private static void list() {
        Sheet.sentence("6: THE LIST has a TYPE more, at its end: how many", () -> {
            DefaultRules r = new DefaultRules();
            int x = Make.needing(r, 5);
            Sheet.due("list", r.list(1), 3);
            Sheet.due("the first stays the first", r.chosen(x), 2);
            Sheet.due("the last place", r.lacks(x, 2), -3);
            Sheet.due("list", r.list(0), 4);
            Sheet.due("the last place", r.lacks(x, 3), 5);
            Sheet.due("a type of one's own", r.list(r.type(2)), 5);
            Sheet.due("the last place", r.lacks(x, 4), 5);
        });
        Sheet.sentence("6: (twice as well)", () -> {
            DefaultRules r = new DefaultRules();
            Sheet.due("LONG again", r.list(2), 3);
            Sheet.due("and again", r.list(2), 4);
            Sheet.due("its place", r.lacks(Make.needing(r, 6), 3), 6);
        });
        Sheet.sentence("6: type -1: it is empty", () -> {
            DefaultRules r = new DefaultRules();
            int x = r.whole(1);
            Sheet.due("list", r.list(-1), 0);
            Sheet.due("chosen", r.chosen(x), -14);
            Sheet.due("lacks", r.lacks(x, 0), -1);
            Sheet.due("empty already", r.list(-1), 0);
            Sheet.due("one", r.list(4), 1);
            Sheet.due("chosen", r.chosen(x), 4);
            Sheet.due("lacks", r.lacks(x, 1), -1);
        });
        Sheet.sentence("6: -1", () -> {
            DefaultRules r = new DefaultRules();
            for (int t : new int[] {-2, 6, 9, 10, MIN, MAX}) {
                Sheet.due("list(" + t + ")", r.list(t), -1);
            }
            Sheet.due("none was taken", r.list(5), 3);
        });
        Sheet.sentence("6: -4: 6", () -> {
            DefaultRules r = new DefaultRules();
            for (int many = 3; many <= 6; many++) {
                Sheet.due("room", r.list(1), many);
            }
            Sheet.due("no room", r.list(1), -4);
            Sheet.due("no room for one that it has", r.list(2), -4);
            int x = r.whole(1);
            Sheet.due("the last place", r.lacks(x, 5), -3);
            Sheet.due("no place", r.lacks(x, 6), -1);
            Sheet.due("it is empty", r.list(-1), 0);
            for (int many = 1; many <= 6; many++) {
                Sheet.due("room again", r.list(1), many);
            }
            Sheet.due("no room again", r.list(1), -4);
        });
    }

    private static void wider() {
        Sheet.sentence("7: The wider rule, or the narrow one: which it was: 1, 0", () -> {
            DefaultRules r = new DefaultRules();
            int x = Make.needing(r, 2);
            boolean was = false;
            for (boolean on : new boolean[] {false, true, true, false, false, true}) {
                Sheet.due("wider", r.wider(on), was ? 1 : 0);
                Sheet.due("chosen", r.chosen(x), on ? 2 : -12);
                was = on;
            }
        });
    }

    private static void makers() {
        Sheet.sentence("8: WHOLE v: its number. -4", () -> {
            DefaultRules r = new DefaultRules();
            for (int n = 0; n < 60; n++) {
                Sheet.due("room", r.whole(n), n);
            }
            Sheet.due("no room", r.whole(0), -4);
            Sheet.due("the last one", r.value(59), 59);
        });
        Sheet.sentence("9: PART v, k: its number. -4", () -> {
            DefaultRules r = new DefaultRules();
            for (int n = 0; n < 60; n++) {
                Sheet.due("room", r.part(n, 1), n);
            }
            Sheet.due("no room", r.part(0, 1), -4);
            Sheet.dueDouble(r, 59, 5.9);
        });
        Sheet.sentence("9: (1 to 6) .. -2", () -> {
            DefaultRules r = new DefaultRules();
            for (int k : new int[] {0, 7, -1, MIN, MAX}) {
                Sheet.due("part(1, " + k + ")", r.part(1, k), -2);
            }
            Sheet.due("none was made", r.part(1, 1), 0);
            Sheet.due("the greatest", r.part(1, 6), 1);
        });
        Sheet.sentence("10: SOME: its number. -4", () -> {
            DefaultRules r = new DefaultRules();
            for (int n = 0; n < 60; n++) {
                Sheet.due("room", r.some(), n);
            }
            Sheet.due("no room", r.some(), -4);
        });
    }

    private static void two() {
        Sheet.sentence("11: TWO: its number", () -> {
            DefaultRules r = new DefaultRules();
            r.some();
            for (int kind = 0; kind < 8; kind++) {
                Sheet.due("two", r.two(kind, 0, kind), kind + 1);
            }
        });
        Sheet.sentence("11: -1", () -> {
            DefaultRules r = new DefaultRules();
            int x = r.whole(1);
            for (int n : notNodes(1)) {
                Sheet.due("no x " + n, r.two(0, n, x), -1);
                Sheet.due("no y " + n, r.two(0, x, n), -1);
                Sheet.due("neither " + n, r.two(0, n, n), -1);
            }
        });
        Sheet.sentence("11: -2: kind", () -> {
            DefaultRules r = new DefaultRules();
            int x = r.whole(1);
            int y = r.whole(2);
            for (int kind : new int[] {-1, 8, MIN, MAX}) {
                Sheet.due("kind " + kind, r.two(kind, x, y), -2);
            }
            Sheet.due("they are not joined", r.group(y), y);
        });
        Sheet.sentence("11: -3: both GROUPS were TOLD unlike TYPES", () -> {
            DefaultRules r = new DefaultRules();
            int x = Make.whole(r, 1, 1);
            int y = Make.whole(r, 2, 2);
            Sheet.due("told", r.two(0, x, y), -3);
            Sheet.due("the other way round", r.two(0, y, x), -3);
            Sheet.due("told to others of the GROUPS", r.two(0, r.one(0, x), r.one(0, y)), -3);
            Sheet.due("they are not joined", r.group(y), y);
            int own = r.type(1);
            Sheet.due("unlike, of one BASE", r.two(0, x, Make.whole(r, 1, own)), -3);
        });
        Sheet.sentence("11: not -3: one alone, both alike, one GROUP", () -> {
            DefaultRules r = new DefaultRules();
            int x = Make.whole(r, 1, 1);
            Sheet.due("one GROUP", r.two(0, x, x), 1);
            Sheet.due("one alone", r.two(0, x, r.whole(1)), 3);
            Sheet.due("both alike", r.two(0, x, Make.whole(r, 1, 1)), 5);
            int unlike = Make.needing(r, 6);
            Sheet.due("what no TYPE has is not refused", r.two(4, x, unlike), 7);
            Sheet.due("chosen", r.chosen(x), -16);
        });
        Sheet.sentence("11: -4", () -> {
            DefaultRules r = new DefaultRules();
            Make.fill(r);
            for (int kind = 0; kind < 8; kind++) {
                Sheet.due("no room", r.two(kind, 0, 59), -4);
            }
            Sheet.due("they are not joined", r.group(59), 59);
            Sheet.due("they got nothing", r.needs(59, 0), 0);
        });
    }

    private static void oneAndTurn() {
        Sheet.sentence("12: ONE: its number. -4", () -> {
            DefaultRules r = new DefaultRules();
            r.whole(1);
            for (int n = 1; n < 60; n++) {
                Sheet.due("room", r.one(n % 3, n - 1), n);
            }
            Sheet.due("no room", r.one(0, 59), -4);
            DefaultRules s = new DefaultRules();
            Make.fill(s);
            Sheet.due("no room", s.one(0, 59), -4);
            Sheet.due("it got nothing", s.needs(59, 0), 0);
        });
        Sheet.sentence("12: -1", () -> {
            DefaultRules r = new DefaultRules();
            r.whole(1);
            for (int n : notNodes(1)) {
                Sheet.due("no node " + n, r.one(0, n), -1);
            }
        });
        Sheet.sentence("12: -2", () -> {
            DefaultRules r = new DefaultRules();
            int x = r.some();
            for (int kind : new int[] {-1, 3, MIN, MAX}) {
                Sheet.due("kind " + kind, r.one(kind, x), -2);
            }
            Sheet.due("it got nothing", r.needs(x, 0), 0);
            Sheet.due("the greatest kind", r.one(2, x), 1);
        });
        Sheet.sentence("13: TURN: its number. -4", () -> {
            DefaultRules r = new DefaultRules();
            r.whole(1);
            for (int n = 1; n < 60; n++) {
                Sheet.due("room", r.turn(0, n - 1), n);
            }
            for (int kind = 0; kind < 3; kind++) {
                Sheet.due("no room", r.turn(kind, 59), -4);
            }
            Sheet.due("x got nothing", r.needs(59, 0), 8);
        });
        Sheet.sentence("13: -1", () -> {
            DefaultRules r = new DefaultRules();
            r.whole(1);
            for (int n : notNodes(1)) {
                Sheet.due("no node " + n, r.turn(0, n), -1);
            }
        });
        Sheet.sentence("13: -2", () -> {
            DefaultRules r = new DefaultRules();
            int x = r.some();
            for (int kind : new int[] {-1, 3, MIN, MAX}) {
                Sheet.due("kind " + kind, r.turn(kind, x), -2);
            }
            Sheet.due("it got nothing", r.needs(x, 0), 0);
            Sheet.due("the greatest kind", r.turn(2, x), 1);
        });
    }

    private static void need() {
        Sheet.sentence("14: The GROUP of a NODE needs a class, too: 1", () -> {
            DefaultRules r = new DefaultRules();
            int x = r.whole(1);
            int y = r.one(0, x);
            Sheet.due("the least class", r.need(y, 0), 1);
            r.family(0, true);
            r.family(0, true);
            r.family(0, true);
            r.family(0, true);
            Sheet.due("the greatest class", r.need(y, 11), 1);
            Sheet.due("the GROUP", r.needs(x, 0), 1 | 1 << 3 | 1 << 11);
        });
        Sheet.sentence("14: 0 it did", () -> {
            DefaultRules r = new DefaultRules();
            int x = r.whole(1);
            int y = r.one(0, x);
            Sheet.due("by its kind", r.need(x, 3), 0);
            Sheet.due("once", r.need(x, 5), 1);
            Sheet.due("twice", r.need(x, 5), 0);
            Sheet.due("by another of its GROUP", r.need(y, 5), 0);
            Sheet.due("above a NEED alone", r.need(x, 4), 1);
        });
        Sheet.sentence("14: -1", () -> {
            DefaultRules r = new DefaultRules();
            int x = r.some();
            for (int n : notNodes(1)) {
                Sheet.due("no node " + n, r.need(n, 0), -1);
            }
            for (int f : new int[] {-1, 8, 11, 12, 32, MIN, MAX}) {
                Sheet.due("no class " + f, r.need(x, f), -1);
            }
            Sheet.due("it got nothing", r.needs(x, 0), 0);
        });
    }

    private static void tell() {
        Sheet.sentence("15: The GROUP is TOLD a TYPE: 1", () -> {
            DefaultRules r = new DefaultRules();
            int x = r.whole(1);
            int y = r.one(0, x);
            Sheet.due("a TYPE that lacks a NEED", r.tell(y, 0), 1);
            Sheet.due("the GROUP", r.chosen(x), -16);
            Sheet.due("the last TYPE", r.tell(r.some(), 5), 1);
            int own = r.type(0);
            Sheet.due("a TYPE of one's own", r.tell(r.some(), own), 1);
            int fixed = r.whole(1);
            r.fix(fixed);
            Sheet.due("what is FIXED", r.tell(fixed, 1), 1);
            Sheet.due("chosen", r.chosen(fixed), 1);
        });
        Sheet.sentence("15: -1", () -> {
            DefaultRules r = new DefaultRules();
            int x = r.whole(1);
            for (int n : notNodes(1)) {
                Sheet.due("no node " + n, r.tell(n, 1), -1);
            }
            for (int t : new int[] {-1, 6, 9, 10, MIN, MAX}) {
                Sheet.due("no type " + t, r.tell(x, t), -1);
            }
            Sheet.due("nothing was TOLD", r.lacks(x, -1), -3);
            Sheet.due("chosen", r.chosen(x), 2);
        });
        Sheet.sentence("15: -3: another one was", () -> {
            DefaultRules r = new DefaultRules();
            int x = r.whole(1);
            int y = r.one(0, x);
            Sheet.due("UNIT", r.tell(x, 0), 1);
            for (int t = 1; t < 6; t++) {
                Sheet.due("another one", r.tell(y, t), -3);
            }
            Sheet.due("the same one", r.tell(y, 0), 1);
            Sheet.due("chosen", r.chosen(x), -16);
            int far = Make.whole(r, 1, 1);
            int z = r.two(0, r.whole(1), far);
            Sheet.due("by what was joined", r.tell(z, 2), -3);
            Sheet.due("by what was joined, the same", r.tell(z, 1), 1);
        });
    }

    private static void fix() {
        Sheet.sentence("16: The GROUP is FIXED: 1, 0 it was", () -> {
            DefaultRules r = new DefaultRules();
            int x = r.whole(1);
            int y = r.one(0, x);
            int other = r.turn(0, x);
            Sheet.due("fix", r.fix(y), 1);
            Sheet.due("again", r.fix(y), 0);
            Sheet.due("the GROUP", r.fix(x), 0);
            Sheet.due("made behind", r.fix(r.one(0, y)), 0);
            Sheet.due("another GROUP", r.fix(other), 1);
        });
        Sheet.sentence("16: -1", () -> {
            DefaultRules r = new DefaultRules();
            r.whole(1);
            for (int n : notNodes(1)) {
                Sheet.due("no node " + n, r.fix(n), -1);
            }
            Sheet.due("none was FIXED", r.fix(0), 1);
        });
    }

    private static void group() {
        Sheet.sentence("17: The least NODE of a NODE's GROUP", () -> {
            DefaultRules r = new DefaultRules();
            Make.fill(r);
            Sheet.due("of one", r.group(59), 59);
            DefaultRules s = new DefaultRules();
            for (int n = 0; n < 30; n++) {
                s.some();
            }
            for (int n = 29; n > 0; n--) {
                s.two(0, n, n - 1);
                Sheet.due("joined downwards", s.group(29), n - 1);
                Sheet.due("the new one", s.group(59 - n), n - 1);
            }
        });
        Sheet.sentence("17: -1", () -> {
            DefaultRules r = new DefaultRules();
            r.whole(1);
            for (int n : notNodes(1)) {
                Sheet.due("no node " + n, r.group(n), -1);
            }
        });
    }

    private static void needs() {
        Sheet.sentence("18: as they came (what = 0), with ALL SUPERS (1), as bits", () -> {
            DefaultRules r = new DefaultRules();
            int none = r.some();
            Sheet.due("none", r.needs(none, 0), 0);
            Sheet.due("none", r.needs(none, 1), 0);
            int x = Make.needing(r, 2, 5);
            Sheet.due("as they came", r.needs(x, 0), 0b100100);
            Sheet.due("with ALL SUPERS", r.needs(x, 1), 0b111111);
            for (int f = 8; f < 12; f++) {
                r.family(0, true);
            }
            int all = Make.needing(r, 0, 1, 2, 3, 4, 5, 6, 7, 8, 9, 10, 11);
            Sheet.due("all", r.needs(all, 0), 4095);
            Sheet.due("all", r.needs(all, 1), 4095);
        });
        Sheet.sentence("18: -1", () -> {
            DefaultRules r = new DefaultRules();
            r.whole(1);
            for (int n : notNodes(1)) {
                Sheet.due("no node " + n, r.needs(n, 0), -1);
            }
        });
        Sheet.sentence("18: -2", () -> {
            DefaultRules r = new DefaultRules();
            int x = r.whole(1);
            for (int what : new int[] {-1, 2, MIN, MAX}) {
                Sheet.due("what " + what, r.needs(x, what), -2);
            }
        });
    }

    private static void chosen() {
        Sheet.sentence("19: THE TYPE; -10 less the REASON", () -> {
            DefaultRules r = new DefaultRules();
            int own = r.family(1 << 3, false);
            int fixed = r.whole(1);
            r.fix(fixed);
            int[] nodes = {Make.told(r, r.some(), 0), fixed, r.some(), Make.needing(r, own),
                Make.needing(r, 5, 6), Make.whole(r, 1, 5)};
            int[] due = {0, -11, -12, -13, -15, -16};
            for (int i = 0; i < nodes.length; i++) {
                Sheet.due("chosen " + i, r.chosen(nodes[i]), due[i]);
            }
            r.list(-1);
            Sheet.due("chosen, THE LIST is empty", r.chosen(nodes[4]), -14);
        });
        Sheet.sentence("19: the greatest TYPE", () -> {
            DefaultRules r = new DefaultRules();
            for (int t = 6; t < 10; t++) {
                r.type(1);
            }
            r.instance(3, 9);
            r.list(-1);
            r.list(9);
            Sheet.due("chosen", r.chosen(r.whole(1)), 9);
        });
        Sheet.sentence("19: -1", () -> {
            DefaultRules r = new DefaultRules();
            r.whole(1);
            for (int n : notNodes(1)) {
                Sheet.due("no node " + n, r.chosen(n), -1);
            }
        });
    }

    private static void lacks() {
        Sheet.sentence("20: The least class of NEEDS of which the TYPE at a place has no instance", () -> {
            DefaultRules r = new DefaultRules();
            int own = r.family(0, true);
            int x = Make.needing(r, own, 7, 6, 5);
            Sheet.due("LONG", r.lacks(x, 0), 6);
            Sheet.due("DOUBLE", r.lacks(x, 1), 5);
            r.list(0);
            Sheet.due("UNIT", r.lacks(x, 2), 5);
            Sheet.due("the greatest", r.lacks(Make.needing(r, own, 0, 1, 2), 2), own);
            r.list(r.type(0));
            Sheet.due("the least", r.lacks(Make.needing(r, own, 0), 3), 0);
        });
        Sheet.sentence("20: (place -1: that which was TOLD)", () -> {
            DefaultRules r = new DefaultRules();
            int x = Make.told(r, Make.needing(r, 5, 6), 3);
            Sheet.due("told", r.lacks(x, -1), 5);
            Sheet.due("another of its GROUP", r.lacks(r.one(0, x), -1), 5);
            r.list(-1);
            Sheet.due("THE LIST is empty", r.lacks(x, -1), 5);
        });
        Sheet.sentence("20: -3: it has all", () -> {
            DefaultRules r = new DefaultRules();
            int x = Make.whole(r, 1, 1);
            Sheet.due("at a place", r.lacks(x, 0), -3);
            Sheet.due("told", r.lacks(x, -1), -3);
            int none = r.some();
            Sheet.due("no NEEDS", r.lacks(none, 1), -3);
        });
        Sheet.sentence("20: -3: nothing was TOLD", () -> {
            DefaultRules r = new DefaultRules();
            Sheet.due("lacks", r.lacks(Make.needing(r, 5, 6), -1), -3);
            Sheet.due("lacks", r.lacks(r.some(), -1), -3);
        });
        Sheet.sentence("20: -1: the node", () -> {
            DefaultRules r = new DefaultRules();
            r.whole(1);
            for (int n : notNodes(1)) {
                Sheet.due("no node " + n, r.lacks(n, 0), -1);
            }
        });
        Sheet.sentence("20: -1: the place", () -> {
            DefaultRules r = new DefaultRules();
            int x = r.part(1, 1);
            for (int place : new int[] {-2, 2, 6, MIN, MAX}) {
                Sheet.due("no place " + place, r.lacks(x, place), -1);
            }
            r.list(-1);
            Sheet.due("THE LIST is empty", r.lacks(x, 0), -1);
            for (int many = 1; many <= 6; many++) {
                r.list(2);
                Sheet.due("the last place", r.lacks(x, many - 1), 6);
                Sheet.due("one beyond", r.lacks(x, many), -1);
            }
        });
    }

    private static void value() {
        Sheet.sentence("21: NOTHING: no such node", () -> {
            DefaultRules r = new DefaultRules();
            r.whole(1);
            for (int n : notNodes(1)) {
                Sheet.dueNothing(r, n);
            }
        });
        Sheet.sentence("21: NOTHING: one of these has no TYPE", () -> {
            DefaultRules r = new DefaultRules();
            int x = r.whole(7);
            int y = r.turn(0, x);
            int z = r.turn(2, y);
            Sheet.dueDouble(r, z, 7.0);
            r.fix(y);
            Sheet.dueNothing(r, y);
            Sheet.dueNothing(r, z);
            Sheet.due("what it does not come of counts not", r.value(x), 7);
            r.tell(y, 1);
            Sheet.dueDouble(r, z, 7.0);
            r.need(x, 6);
            Sheet.dueNothing(r, x);
            Sheet.dueNothing(r, y);
            Sheet.dueNothing(r, z);
        });
        Sheet.sentence("21: NOTHING: each REASON", () -> {
            DefaultRules r = new DefaultRules();
            int own = r.family(0, false);
            int[] nodes = {r.whole(1), r.whole(1), r.whole(1), r.whole(1)};
            r.fix(nodes[0]);
            r.need(nodes[1], own);
            r.need(nodes[2], 5);
            r.need(nodes[2], 6);
            r.tell(nodes[3], 0);
            for (int n : nodes) {
                Sheet.dueNothing(r, n);
            }
            int x = r.whole(1);
            Sheet.due("it has one", r.value(x), 1);
            r.list(-1);
            Sheet.dueNothing(r, x);
        });
        Sheet.sentence("21: NOTHING: no BASE", () -> {
            DefaultRules r = new DefaultRules();
            for (int t : new int[] {0, 5, r.type(0)}) {
                int x = Make.told(r, r.some(), t);
                Sheet.due("chosen", r.chosen(x), t);
                Sheet.dueNothing(r, x);
            }
        });
        Sheet.sentence("21: NOTHING: no value", () -> {
            DefaultRules r = new DefaultRules();
            int some = r.some();
            int x = r.whole(7);
            int left = r.two(0, some, x);
            int right = r.two(0, x, some);
            int deep = r.turn(2, r.one(0, right));
            for (int n : new int[] {some, left, right, deep}) {
                Sheet.due("it has a TYPE", r.chosen(n) > 0 ? 1 : 0, 1);
                Sheet.dueNothing(r, n);
            }
            Sheet.due("what it does not come of counts not", r.value(x), 7);
        });
        Sheet.sentence("21: ArithmeticException: by 0", () -> {
            DefaultRules r = new DefaultRules();
            int zero = r.whole(0);
            int x = r.two(4, r.whole(7), zero);
            int y = r.two(5, r.whole(7), zero);
            int[] nodes = {x, y, r.one(0, x), r.two(0, zero, x), r.two(0, x, zero), r.turn(0, y),
                r.turn(2, r.turn(0, x)), r.two(2, x, zero), r.two(4, zero, y)};
            for (int n : nodes) {
                Sheet.dueThrow(r, n);
                Sheet.dueThrow(r, n);
            }
            Sheet.due("what it does not come of counts not", r.value(zero), 0);
        });
        Sheet.sentence("21: by 0 in the one that 6, 7 do not take", () -> {
            DefaultRules r = new DefaultRules();
            int zero = r.whole(0);
            int x = r.two(4, r.whole(7), zero);
            for (int kind = 6; kind <= 7; kind++) {
                Sheet.dueThrow(r, r.two(kind, zero, x));
                Sheet.dueThrow(r, r.two(kind, x, zero));
            }
        });
        Sheet.sentence("21: (where nothing is NOTHING)", () -> {
            DefaultRules r = new DefaultRules();
            int some = r.some();
            int zero = r.whole(0);
            int x = r.two(4, zero, zero);
            Sheet.dueThrow(r, x);
            Sheet.dueNothing(r, r.two(0, some, x));
            Sheet.dueNothing(r, r.two(0, x, some));
            Sheet.dueNothing(r, r.two(4, some, zero));
            int turned = r.turn(0, x);
            Sheet.dueThrow(r, turned);
            r.fix(turned);
            Sheet.dueNothing(r, turned);
            Sheet.dueThrow(r, x);
            r.fix(x);
            Sheet.dueNothing(r, x);
        });
        Sheet.sentence("21: by THE TYPE of its GROUP, as it is now", () -> {
            DefaultRules r = new DefaultRules();
            int x = r.two(0, r.whole(MAX), r.whole(1));
            Sheet.due("LONG", r.value(x), MAX + 1L);
            r.list(-1);
            r.list(1);
            Sheet.due("INT", r.value(x), MIN);
            r.need(x, 6);
            Sheet.dueNothing(r, x);
            r.list(3);
            Sheet.dueFloat(r, x, 0x1p31f);
            r.tell(x, 4);
            Sheet.dueDouble(r, x, 0x1p31);
        });
        Sheet.sentence("21: a chain of all nodes", () -> {
            DefaultRules r = new DefaultRules();
            int x = r.whole(1);
            for (int n = 1; n < 60; n++) {
                x = r.two(0, x, x);
            }
            Sheet.due("the last node", x, 59);
            Sheet.due("value", r.value(x), 1L << 59);
            Sheet.due("compare", r.compare(x, 0), 2);
        });
    }

    private static void compare() {
        Sheet.sentence("22: 0 less, 1 the same, 2 more", () -> {
            DefaultRules r = new DefaultRules();
            int least = Make.leastLong(r);
            int greatest = Make.greatestLong(r);
            int[] nodes = {least, r.whole(MIN), r.whole(0), r.whole(1), r.whole(MAX), greatest};
            for (int n : nodes) {
                r.two(0, least, n);
            }
            for (int i = 0; i < nodes.length; i++) {
                for (int j = 0; j < nodes.length; j++) {
                    Sheet.due("long", r.compare(nodes[i], nodes[j]), i < j ? 0 : i == j ? 1 : 2);
                }
            }
            DefaultRules s = new DefaultRules();
            int x = Make.whole(s, MIN, 1);
            int y = s.two(0, s.whole(MAX), x);
            int z = s.two(0, s.whole(MAX), s.two(1, y, y));
            Sheet.due("int", s.compare(x, z), 0);
            Sheet.due("int", s.compare(z, x), 2);
        });
        Sheet.sentence("22: of floats, infinite and least ones", () -> {
            for (int type = 3; type <= 4; type++) {
                DefaultRules r = new DefaultRules();
                int one = Make.part(r, 10, 1, type);
                int zero = r.two(1, one, one);
                int infinite = r.two(3, one, zero);
                int tiny = Make.powerOfHalf(r, type == 3 ? 149 : 1074, type);
                r.two(0, one, tiny);
                int[] nodes = {r.one(0, infinite), r.one(0, one), r.one(0, tiny), zero, tiny, one, infinite};
                for (int i = 0; i < nodes.length; i++) {
                    for (int j = 0; j < nodes.length; j++) {
                        Sheet.due("compare", r.compare(nodes[i], nodes[j]), i < j ? 0 : i == j ? 1 : 2);
                    }
                }
            }
        });
        Sheet.sentence("22: (also 0 and -0)", () -> {
            for (int type = 3; type <= 4; type++) {
                DefaultRules r = new DefaultRules();
                int zero = Make.zero(r, type);
                int minus = r.one(0, zero);
                Sheet.due("0 and -0", r.compare(zero, minus), 1);
                Sheet.due("-0 and 0", r.compare(minus, zero), 1);
            }
        });
        Sheet.sentence("22: 3 one is no number", () -> {
            for (int type = 3; type <= 4; type++) {
                DefaultRules r = new DefaultRules();
                int zero = Make.zero(r, type);
                int no = r.two(3, zero, zero);
                Sheet.due("the first", r.compare(no, zero), 3);
                Sheet.due("the second", r.compare(zero, no), 3);
                Sheet.due("both", r.compare(no, no), 3);
            }
        });
        Sheet.sentence("22: -1", () -> {
            DefaultRules r = new DefaultRules();
            int x = r.whole(1);
            for (int n : notNodes(1)) {
                Sheet.due("no x " + n, r.compare(n, x), -1);
                Sheet.due("no y " + n, r.compare(x, n), -1);
                Sheet.due("neither " + n, r.compare(n, n), -1);
            }
        });
        Sheet.sentence("22: -3: not of one GROUP", () -> {
            DefaultRules r = new DefaultRules();
            int x = Make.whole(r, 1, 1);
            int y = Make.whole(r, 1, 1);
            Sheet.due("of one TYPE", r.compare(x, y), -3);
            r.two(0, x, y);
            Sheet.due("joined", r.compare(x, y), 1);
            Sheet.due("turned", r.compare(r.turn(0, x), x), -3);
        });
        Sheet.sentence("22: -3: one has no value", () -> {
            DefaultRules r = new DefaultRules();
            int x = r.whole(1);
            int some = r.some();
            int sum = r.two(0, x, some);
            for (int n : new int[] {some, sum}) {
                Sheet.due("the first", r.compare(n, x), -3);
                Sheet.due("the second", r.compare(x, n), -3);
                Sheet.due("both", r.compare(n, n), -3);
            }
            Sheet.due("both have one", r.compare(x, x), 1);
            r.fix(x);
            Sheet.due("no TYPE", r.compare(x, x), -3);
        });
        Sheet.sentence("22: -3: or throws", () -> {
            DefaultRules r = new DefaultRules();
            int zero = r.whole(0);
            for (int kind = 4; kind <= 5; kind++) {
                int x = r.two(kind, zero, zero);
                Sheet.due("the first", r.compare(x, zero), -3);
                Sheet.due("the second", r.compare(zero, x), -3);
                Sheet.due("both", r.compare(x, x), -3);
                Sheet.dueThrow(r, x);
            }
        });
    }
}
