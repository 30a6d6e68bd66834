/** The bounds and edges that the terms name: classes, types, the list, nodes and groups, their type. */
public final class TermsEdgesTest {
    private static final int[] ALL_SUPERS = {0, 1, 0, 0, 0b1011, 0b11011, 0b1000, 0b1011011};
    private static final int[][] INSTANCES = {{0, 1, 2}, {0, 1, 2, 3, 4, 5}, {0, 1, 2, 3, 4, 5},
        {0, 1, 2, 3, 4, 6, 7}, {0, 1, 2, 3, 4, 6, 7}, {0, 1, 2}};

    public static void main(String[] args) {
        classes();
        types();
        theList();
        nodes();
        joined();
        gets();
        told();
        narrow();
        wider();
        byTheList();
        Sheet.end();
    }

    private static void classes() {
        Sheet.sentence("CLASSES: 0 EQ .. 7 REALFRAC", TermsEdgesTest::eightAtFirst);
        Sheet.sentence("its SUPERS", TermsEdgesTest::supersAtFirst);
        Sheet.sentence("these are STANDARD", TermsEdgesTest::standardAtFirst);
        Sheet.sentence("others 8 .. 11 as they come", TermsEdgesTest::twelveClasses);
        Sheet.sentence("with SUPERS of lesser numbers", TermsEdgesTest::lesserSupers);
        Sheet.sentence("STANDARD or not", TermsEdgesTest::standardOrNot);
        Sheet.sentence("ALL SUPERS of a class are its SUPERS, and ALL SUPERS of these",
            TermsEdgesTest::supersOfSupers);
        Sheet.sentence("NUMERIC are 3", TermsEdgesTest::threeIsNumeric);
        Sheet.sentence("and classes with 3 among ALL SUPERS", TermsEdgesTest::numericBySupers);
    }

    private static void eightAtFirst() {
        DefaultRules r = new DefaultRules();
        Sheet.due("has(0, 1)", r.has(0, 1), 1);
        Sheet.due("has(7, 4)", r.has(7, 4), 1);
        Sheet.due("has(7, 1)", r.has(7, 1), 0);
        Sheet.due("has(8, 1)", r.has(8, 1), -1);
        Sheet.due("has(-1, 1)", r.has(-1, 1), -1);
    }

    private static void supersAtFirst() {
        DefaultRules r = new DefaultRules();
        for (int f = 0; f < 8; f++) {
            Sheet.due("needs of class " + f, r.needs(Make.needing(r, f), 1), ALL_SUPERS[f] | 1 << f);
        }
    }

    private static void standardAtFirst() {
        DefaultRules r = new DefaultRules();
        int[] due = {2, 2, 2, 2, 2, 2, 4, 4};
        for (int f = 0; f < 8; f++) {
            Sheet.due("chosen, needing 3 and " + f, r.chosen(Make.needing(r, 3, f)), due[f]);
        }
    }

    private static void twelveClasses() {
        DefaultRules r = new DefaultRules();
        for (int f = 8; f < 12; f++) {
            Sheet.due("has before", r.has(f, 1), -1);
            Sheet.due("family", r.family(0, true), f);
            Sheet.due("has behind", r.has(f, 1), 0);
        }
        Sheet.due("family, the thirteenth", r.family(0, true), -4);
        Sheet.due("has(12, 1)", r.has(12, 1), -1);
    }

    private static void lesserSupers() {
        DefaultRules r = new DefaultRules();
        for (int f = 8; f < 12; f++) {
            Sheet.due("its own number", r.family(1 << f, true), -2);
            Sheet.due("all lesser and its own", r.family((1 << f + 1) - 1, true), -2);
            Sheet.due("all lesser", r.family((1 << f) - 1, true), f);
        }
    }

    private static void standardOrNot() {
        DefaultRules r = new DefaultRules();
        int standard = r.family(0, true);
        int not = r.family(0, false);
        r.instance(standard, 2);
        r.instance(not, 2);
        Sheet.due("chosen, STANDARD", r.chosen(Make.needing(r, 3, standard)), 2);
        Sheet.due("chosen, not", r.chosen(Make.needing(r, 3, not)), -13);
    }

    private static void supersOfSupers() {
        DefaultRules r = new DefaultRules();
        int all = 1 << 7 | ALL_SUPERS[7];
        int above = 7;
        for (int f = 8; f < 12; f++) {
            Sheet.due("family", r.family(1 << above, true), f);
            all |= 1 << f;
            int x = Make.needing(r, f);
            Sheet.due("needs, as they came", r.needs(x, 0), 1 << f);
            Sheet.due("needs, with ALL SUPERS", r.needs(x, 1), all);
            above = f;
        }
    }

    private static void threeIsNumeric() {
        DefaultRules r = new DefaultRules();
        Sheet.due("chosen, needing 3", r.chosen(Make.needing(r, 3)), 2);
        for (int f = 0; f < 3; f++) {
            Sheet.due("chosen, needing " + f, r.chosen(Make.needing(r, f)), -12);
        }
    }

    private static void numericBySupers() {
        DefaultRules r = new DefaultRules();
        for (int f = 4; f < 8; f++) {
            Sheet.due("chosen, needing " + f, r.chosen(Make.needing(r, f)), f < 6 ? 2 : 4);
        }
        int near = r.family(1 << 3, true);
        int far = r.family(1 << near, true);
        int furthest = r.family(1 << far, true);
        int not = r.family(0b111, true);
        for (int f : new int[] {near, far, furthest}) {
            Sheet.due("chosen, numeric, no instance", r.chosen(Make.needing(r, f)), -15);
        }
        Sheet.due("chosen, 3 is not above it", r.chosen(Make.needing(r, not)), -12);
    }

    private static void types() {
        Sheet.sentence("TYPES: 0 UNIT .. 5 TEXT", TermsEdgesTest::sixAtFirst);
        Sheet.sentence("(instances of 0, 1, 2) .. (0 to 5) .. (0 to 4, 6, 7)", TermsEdgesTest::instancesAtFirst);
        Sheet.sentence("others 6 .. 9 as they come", TermsEdgesTest::tenTypes);
        Sheet.sentence("with a BASE: 0 none, or one of 1 .. 4", TermsEdgesTest::basesOfOwn);
        Sheet.sentence("the BASE of 1 to 4 is itself", TermsEdgesTest::basesAtFirst);
        Sheet.sentence("of 0, 5 none", TermsEdgesTest::noBase);
    }

    private static void sixAtFirst() {
        DefaultRules r = new DefaultRules();
        Sheet.due("has(0, 0)", r.has(0, 0), 1);
        Sheet.due("has(0, 5)", r.has(0, 5), 1);
        Sheet.due("has(0, 6)", r.has(0, 6), -1);
        Sheet.due("has(0, -1)", r.has(0, -1), -1);
    }

    private static void instancesAtFirst() {
        DefaultRules r = new DefaultRules();
        for (int t = 0; t < 6; t++) {
            int bits = 0;
            for (int f : INSTANCES[t]) {
                bits |= 1 << f;
            }
            for (int f = 0; f < 8; f++) {
                Sheet.due("has(" + f + ", " + t + ")", r.has(f, t), bits >> f & 1);
            }
        }
    }

    private static void tenTypes() {
        DefaultRules r = new DefaultRules();
        for (int t = 6; t < 10; t++) {
            Sheet.due("has before", r.has(0, t), -1);
            Sheet.due("type", r.type(0), t);
            Sheet.due("has behind", r.has(0, t), 0);
        }
        Sheet.due("type, the eleventh", r.type(0), -4);
        Sheet.due("has(0, 10)", r.has(0, 10), -1);
    }

    /** The greatest int and one more, by each base. */
    private static void basesOfOwn() {
        for (int base = 0; base <= 4; base++) {
            DefaultRules r = new DefaultRules();
            int own = r.type(base);
            r.instance(3, own);
            int x = r.two(0, Make.whole(r, Make.MAX, own), r.whole(1));
            dueGreatestIntAndOne(r, base, x);
        }
    }

    private static void basesAtFirst() {
        for (int base = 1; base <= 4; base++) {
            DefaultRules r = new DefaultRules();
            int x = r.two(0, Make.whole(r, Make.MAX, base), r.whole(1));
            dueGreatestIntAndOne(r, base, x);
        }
    }

    private static void dueGreatestIntAndOne(DefaultRules r, int base, int x) {
        switch (base) {
            case 0: Sheet.dueNothing(r, x); break;
            case 1: Sheet.due("as an int", r.value(x), Make.MIN); break;
            case 2: Sheet.due("as a long", r.value(x), 2147483648L); break;
            case 3: Sheet.dueFloat(r, x, 2147483648f); break;
            default: Sheet.dueDouble(r, x, 2147483648.0); break;
        }
    }

    private static void noBase() {
        DefaultRules r = new DefaultRules();
        for (int t : new int[] {0, 5}) {
            int x = Make.told(r, r.some(), t);
            int lesser = r.two(6, x, x);
            Sheet.due("chosen", r.chosen(lesser), t);
            Sheet.dueNothing(r, lesser);
            for (int f = 3; f < 8; f++) {
                Sheet.due("instance(" + f + ", " + t + ")", r.instance(f, t), -3);
            }
        }
    }

    private static void theList() {
        Sheet.sentence("THE LIST are TYPES that are taken, at first 2, 4", TermsEdgesTest::listAtFirst);
    }

    private static void listAtFirst() {
        DefaultRules r = new DefaultRules();
        int whole = Make.needing(r, 5);
        int part = Make.needing(r, 6);
        Sheet.due("chosen, a whole one", r.chosen(whole), 2);
        Sheet.due("chosen, a part", r.chosen(part), 4);
        Sheet.due("lacks at 0", r.lacks(whole, 0), -3);
        Sheet.due("lacks at 1", r.lacks(whole, 1), 5);
        Sheet.due("lacks at 2", r.lacks(whole, 2), -1);
        Sheet.due("list, the third", r.list(1), 3);
    }

    private static void nodes() {
        Sheet.sentence("NODES 0 .. 59, as they come", TermsEdgesTest::sixtyNodes);
        Sheet.sentence("each of a GROUP", TermsEdgesTest::eachOfAGroup);
        Sheet.sentence("(of which all NODES have one TYPE)", TermsEdgesTest::oneType);
    }

    private static void sixtyNodes() {
        DefaultRules r = new DefaultRules();
        for (int n = 0; n < 60; n++) {
            Sheet.due("group before", r.group(n), -1);
            Sheet.due("some", r.some(), n);
            Sheet.due("group behind", r.group(n), n);
        }
        Sheet.due("some, the sixty-first", r.some(), -4);
        Sheet.due("group(60)", r.group(60), -1);
    }

    private static void eachOfAGroup() {
        DefaultRules r = new DefaultRules();
        int x = r.whole(1);
        int y = r.whole(2);
        int[] nodes = {x, y, r.part(1, 1), r.some(), r.two(0, x, y), r.one(0, y), r.turn(0, y)};
        int[] due = {0, 0, 2, 3, 0, 0, 6};
        for (int i = 0; i < nodes.length; i++) {
            Sheet.due("group(" + nodes[i] + ")", r.group(nodes[i]), due[i]);
        }
    }

    private static void oneType() {
        DefaultRules r = new DefaultRules();
        int x = r.whole(1);
        int y = r.whole(2);
        int sum = r.two(0, x, y);
        r.need(y, 6);
        for (int n : new int[] {x, y, sum}) {
            Sheet.due("chosen", r.chosen(n), 4);
        }
        r.tell(sum, 3);
        for (int n : new int[] {x, y, sum}) {
            Sheet.due("chosen, told", r.chosen(n), 3);
        }
    }

    private static void joined() {
        Sheet.sentence("the GROUP of those that are named", TermsEdgesTest::ofTheNamed);
        Sheet.sentence("joined, if they are two", TermsEdgesTest::allAreJoined);
        Sheet.sentence("joined: one GROUP named twice", TermsEdgesTest::namedTwice);
        Sheet.sentence("the NEEDS of both", TermsEdgesTest::needsOfBoth);
        Sheet.sentence("what was TOLD of one", TermsEdgesTest::toldOfOne);
        Sheet.sentence("FIXED if one is", TermsEdgesTest::fixedIfOneIs);
        Sheet.sentence("or of a new one", TermsEdgesTest::ofANewOne);
    }

    private static void ofTheNamed() {
        DefaultRules r = new DefaultRules();
        int x = r.whole(1);
        r.some();
        for (int kind = 0; kind < 3; kind++) {
            Sheet.due("group of one", r.group(r.one(kind, x)), x);
        }
        for (int kind = 0; kind < 8; kind++) {
            Sheet.due("group of two", r.group(r.two(kind, x, x)), x);
        }
    }

    /** Both ways round, and groups of more nodes than those that are named. */
    private static void allAreJoined() {
        for (int way = 0; way < 2; way++) {
            DefaultRules r = new DefaultRules();
            for (int n = 0; n < 6; n++) {
                r.whole(n);
            }
            r.two(0, 1, 4);
            r.two(0, 5, 2);
            Sheet.due("two", way == 0 ? r.two(0, 4, 5) : r.two(0, 5, 4), 8);
            int[] due = {0, 1, 1, 3, 1, 1, 1, 1, 1};
            for (int n = 0; n < 9; n++) {
                Sheet.due("group(" + n + ")", r.group(n), due[n]);
            }
        }
    }

    private static void namedTwice() {
        DefaultRules r = new DefaultRules();
        int x = Make.whole(r, 3, 1);
        int y = r.one(0, x);
        int z = r.two(1, x, y);
        Sheet.due("group", r.group(z), x);
        Sheet.due("needs", r.needs(z, 0), 8);
        Sheet.due("chosen", r.chosen(z), 1);
        Sheet.due("fix, which it was not", r.fix(z), 1);
    }

    private static void needsOfBoth() {
        for (int way = 0; way < 2; way++) {
            DefaultRules r = new DefaultRules();
            int x = Make.needing(r, 0, 2);
            int y = Make.needing(r, 5, 2);
            int z = way == 0 ? r.two(0, x, y) : r.two(0, y, x);
            for (int n : new int[] {x, y, z}) {
                Sheet.due("needs", r.needs(n, 0), 0b101101);
            }
        }
    }

    private static void toldOfOne() {
        for (int way = 0; way < 4; way++) {
            DefaultRules r = new DefaultRules();
            int x = r.whole(1);
            int y = r.whole(2);
            r.tell((way & 1) == 0 ? x : y, 1);
            int z = (way & 2) == 0 ? r.two(0, x, y) : r.two(0, y, x);
            for (int n : new int[] {x, y, z}) {
                Sheet.due("chosen", r.chosen(n), 1);
                Sheet.due("tell another", r.tell(n, 2), -3);
            }
        }
        DefaultRules r = new DefaultRules();
        int x = Make.whole(r, 1, 3);
        int y = Make.whole(r, 2, 3);
        Sheet.due("both the same", r.chosen(r.two(0, x, y)), 3);
        int free = r.two(0, r.whole(1), r.whole(2));
        Sheet.due("none", r.lacks(free, -1), -3);
        Sheet.due("none, tell", r.tell(free, 1), 1);
    }

    private static void fixedIfOneIs() {
        for (int way = 0; way < 4; way++) {
            DefaultRules r = new DefaultRules();
            int x = r.whole(1);
            int y = r.whole(2);
            r.fix((way & 1) == 0 ? x : y);
            int z = (way & 2) == 0 ? r.two(0, x, y) : r.two(0, y, x);
            for (int n : new int[] {x, y, z}) {
                Sheet.due("chosen", r.chosen(n), -11);
                Sheet.due("fix", r.fix(n), 0);
            }
        }
        DefaultRules r = new DefaultRules();
        int x = r.whole(1);
        int y = r.whole(2);
        Sheet.due("none is", r.fix(r.two(0, x, y)), 1);
    }

    private static void ofANewOne() {
        DefaultRules r = new DefaultRules();
        int x = Make.whole(r, 1, 1);
        r.fix(x);
        int[] made = {r.whole(1), r.part(1, 1), r.some(), r.turn(0, x), r.turn(1, x), r.turn(2, x)};
        for (int n : made) {
            Sheet.due("group", r.group(n), n);
            Sheet.due("nothing was TOLD", r.lacks(n, -1), -3);
            Sheet.due("fix", r.fix(n), 1);
        }
    }

    private static void gets() {
        Sheet.sentence("WHOLE v (needs 3)", () -> {
            DefaultRules r = new DefaultRules();
            Sheet.due("needs", r.needs(r.whole(1), 0), 1 << 3);
        });
        Sheet.sentence("PART v, k (6)", () -> {
            DefaultRules r = new DefaultRules();
            Sheet.due("needs", r.needs(r.part(1, 1), 0), 1 << 6);
        });
        Sheet.sentence("SOME (nothing)", () -> {
            DefaultRules r = new DefaultRules();
            Sheet.due("needs", r.needs(r.some(), 0), 0);
        });
        Sheet.sentence("TWO x, y: 0 +, 1 -, 2 * (3), 3 / (6), 4, 5 (5), 6, 7 (1)", TermsEdgesTest::twoGets);
        Sheet.sentence("ONE x: 0, 1, 2 (3)", TermsEdgesTest::oneGets);
        Sheet.sentence("TURN: 0 x gets 5, the new one 3; 1: 7, 5; 2: 4, 6", TermsEdgesTest::turnGets);
    }

    private static void twoGets() {
        int[] due = {3, 3, 3, 6, 5, 5, 1, 1};
        for (int kind = 0; kind < 8; kind++) {
            DefaultRules r = new DefaultRules();
            int x = r.some();
            int y = r.some();
            int z = r.two(kind, x, y);
            for (int n : new int[] {x, y, z}) {
                Sheet.due("needs by " + kind, r.needs(n, 0), 1 << due[kind]);
            }
        }
    }

    private static void oneGets() {
        for (int kind = 0; kind < 3; kind++) {
            DefaultRules r = new DefaultRules();
            int x = r.some();
            int y = r.one(kind, x);
            Sheet.due("needs of x", r.needs(x, 0), 1 << 3);
            Sheet.due("needs of the new one", r.needs(y, 0), 1 << 3);
        }
    }

    /** x is of a group whose least node is another, which gets the need as well. */
    private static void turnGets() {
        int[] takes = {5, 7, 4};
        int[] gives = {3, 5, 6};
        for (int kind = 0; kind < 3; kind++) {
            DefaultRules r = new DefaultRules();
            int least = r.whole(1);
            int x = r.one(0, least);
            int y = r.turn(kind, x);
            Sheet.due("needs of x", r.needs(x, 0), 1 << 3 | 1 << takes[kind]);
            Sheet.due("needs of its group", r.needs(least, 0), 1 << 3 | 1 << takes[kind]);
            Sheet.due("needs of the new one", r.needs(y, 0), 1 << gives[kind]);
        }
    }

    private static void told() {
        Sheet.sentence("what was TOLD, if it has instances of all NEEDS", () -> {
            DefaultRules r = new DefaultRules();
            Sheet.due("no NEEDS", r.chosen(Make.told(r, r.some(), 0)), 0);
            Sheet.due("not of THE LIST", r.chosen(Make.whole(r, 1, 1)), 1);
            int x = Make.told(r, Make.needing(r, 2), 5);
            Sheet.due("no NEED is NUMERIC", r.chosen(x), 5);
            r.list(-1);
            Sheet.due("THE LIST is empty", r.chosen(x), 5);
            r.fix(x);
            Sheet.due("FIXED", r.chosen(x), 5);
            int own = r.family(0, false);
            r.instance(own, 5);
            r.need(x, own);
            Sheet.due("not STANDARD", r.chosen(x), 5);
        });
        Sheet.sentence("(else REASON 6)", () -> {
            DefaultRules r = new DefaultRules();
            int x = Make.told(r, Make.needing(r, 0, 1, 2, 3), 0);
            Sheet.due("lacks one", r.chosen(x), -16);
            r.fix(x);
            Sheet.due("FIXED", r.chosen(x), -16);
            r.list(-1);
            Sheet.due("THE LIST is empty", r.chosen(x), -16);
            int y = Make.told(r, Make.needing(r, r.family(0, false)), 1);
            Sheet.due("no NEED is NUMERIC, not STANDARD", r.chosen(y), -16);
            r.instance(8, 1);
            Sheet.due("an instance came", r.chosen(y), 1);
            r.need(y, 6);
            Sheet.due("a NEED came", r.chosen(y), -16);
        });
        Sheet.sentence("else, if it is FIXED: REASON 1", () -> {
            DefaultRules r = new DefaultRules();
            int x = r.whole(1);
            int y = r.some();
            int z = Make.needing(r, 3, r.family(0, false));
            for (int n : new int[] {x, y, z}) {
                r.fix(n);
                Sheet.due("narrow", r.chosen(n), -11);
            }
            r.wider(true);
            r.list(-1);
            for (int n : new int[] {x, y, z}) {
                Sheet.due("wider, THE LIST is empty", r.chosen(n), -11);
            }
        });
    }

    private static void narrow() {
        Sheet.sentence("By the narrow rule: REASON 2, if no NEED is NUMERIC", () -> {
            DefaultRules r = new DefaultRules();
            int own = r.family(0b111, false);
            int[] nodes = {r.some(), Make.needing(r, 0), Make.needing(r, 1), Make.needing(r, 2),
                Make.needing(r, 0, 1, 2), Make.needing(r, own)};
            for (int n : nodes) {
                Sheet.due("chosen", r.chosen(n), -12);
            }
            r.list(-1);
            for (int n : nodes) {
                Sheet.due("THE LIST is empty", r.chosen(n), -12);
            }
            r.list(2);
            r.need(nodes[4], 3);
            Sheet.due("one is NUMERIC", r.chosen(nodes[4]), 2);
        });
        Sheet.sentence("REASON 3, if one is not STANDARD", () -> {
            DefaultRules r = new DefaultRules();
            int own = r.family(0, false);
            int numeric = r.family(1 << 3, false);
            int below = r.family(1 << numeric, true);
            for (int f : new int[] {own, numeric, below}) {
                r.instance(f, 2);
            }
            int x = Make.needing(r, 3, own);
            int y = Make.needing(r, numeric);
            int z = Make.needing(r, below);
            Sheet.due("one of two", r.chosen(x), -13);
            Sheet.due("the NUMERIC one", r.chosen(y), -13);
            Sheet.due("what is not STANDARD is above the NEED", r.chosen(z), 2);
            r.list(-1);
            Sheet.due("THE LIST is empty", r.chosen(x), -13);
            Sheet.due("THE LIST is empty", r.chosen(z), -14);
        });
    }

    private static void wider() {
        Sheet.sentence("By the wider rule: REASON 2, if no NEED is NUMERIC or 0, 1, 2", () -> {
            DefaultRules r = new DefaultRules();
            r.wider(true);
            int own = r.family(0b111, true);
            int[] none = {r.some(), Make.needing(r, own)};
            for (int n : none) {
                Sheet.due("chosen", r.chosen(n), -12);
            }
            for (int f = 0; f < 3; f++) {
                Sheet.due("needing " + f, r.chosen(Make.needing(r, f)), 2);
            }
            for (int f = 3; f < 8; f++) {
                Sheet.due("needing " + f, r.chosen(Make.needing(r, f)), f < 6 ? 2 : 4);
            }
            r.list(-1);
            for (int n : none) {
                Sheet.due("THE LIST is empty", r.chosen(n), -12);
            }
        });
        Sheet.sentence("by the wider rule none must be STANDARD", () -> {
            DefaultRules r = new DefaultRules();
            int own = r.family(0, false);
            int numeric = r.family(1 << 3, false);
            r.instance(own, 4);
            r.instance(numeric, 4);
            int x = Make.needing(r, 2, own);
            int y = Make.needing(r, numeric);
            Sheet.due("narrow", r.chosen(x), -12);
            Sheet.due("narrow", r.chosen(y), -13);
            r.wider(true);
            Sheet.due("wider", r.chosen(x), 4);
            Sheet.due("wider", r.chosen(y), 4);
        });
    }

    private static void byTheList() {
        Sheet.sentence("REASON 4, if THE LIST is empty", () -> {
            DefaultRules r = new DefaultRules();
            int x = r.whole(1);
            int never = Make.needing(r, 5, 6);
            r.list(-1);
            Sheet.due("narrow", r.chosen(x), -14);
            Sheet.due("what no type has", r.chosen(never), -14);
            Sheet.due("told", r.chosen(Make.whole(r, 1, 2)), 2);
            r.wider(true);
            Sheet.due("wider", r.chosen(x), -14);
            r.list(2);
            Sheet.due("empty no more", r.chosen(x), 2);
        });
        Sheet.sentence("else the first one of it that has instances of all NEEDS", () -> {
            DefaultRules r = new DefaultRules();
            int whole = r.whole(1);
            int part = r.part(1, 1);
            r.list(-1);
            for (int t : new int[] {0, 5, 1, 3, 4, 2}) {
                r.list(t);
            }
            Sheet.due("the third", r.chosen(whole), 1);
            Sheet.due("the fourth", r.chosen(part), 3);
            r.list(-1);
            for (int t : new int[] {0, 0, 0, 0, 0, 2}) {
                r.list(t);
            }
            Sheet.due("the last", r.chosen(whole), 2);
        });
        Sheet.sentence("REASON 5, if none has", () -> {
            DefaultRules r = new DefaultRules();
            int part = r.part(1, 1);
            int never = Make.needing(r, 5, 6);
            Sheet.due("one has 5, the other 6", r.chosen(never), -15);
            r.list(-1);
            for (int t : new int[] {0, 5, 1, 2, 1, 2}) {
                r.list(t);
            }
            Sheet.due("a full list", r.chosen(part), -15);
            r.wider(true);
            Sheet.due("wider", r.chosen(part), -15);
        });
    }
}
