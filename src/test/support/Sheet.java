/** Counts the answers that are not as due, sentence by sentence of the document. */
final class Sheet {
    private static int sentences = 0;
    private static int wrong = 0;
    private static int asked = 0;
    private static String words = "";

    private Sheet() { }

    /** One sentence of the document, and the calls that show that it holds. */
    static void sentence(String itsWords, Runnable calls) {
        sentences++;
        words = itsWords;
        asked = 0;
        calls.run();
        if (asked == 0) {
            tell("nothing was asked");
        }
    }

    static void due(String call, long got, long want) {
        asked++;
        if (got != want) {
            tell(call + " answered " + got + ", due is " + want);
        }
    }

    static void dueFloat(DefaultRules r, int x, float want) {
        due("value(" + x + ") as " + want + "f", r.value(x), Float.floatToIntBits(want));
    }

    static void dueDouble(DefaultRules r, int x, double want) {
        due("value(" + x + ") as " + want, r.value(x), Double.doubleToLongBits(want));
    }

    /** The number as a float or as a double, by the type 3 or 4. */
    static void dueReal(DefaultRules r, int type, int x, double want) {
        if (type == 3) {
            dueFloat(r, x, (float) want);
        } else {
            dueDouble(r, x, want);
        }
    }

    static void dueNothing(DefaultRules r, int x) {
        due("value(" + x + ")", r.value(x), Long.MIN_VALUE);
    }

    static void dueThrow(DefaultRules r, int x) {
        boolean threw = false;
        try {
            r.value(x);
        } catch (ArithmeticException e) {
            threw = true;
        }
        due("value(" + x + ") throws", threw ? 1 : 0, 1);
    }

    static void end() {
        System.out.println(sentences + " sentences, "
            + (wrong == 0 ? "all answers are as due" : wrong + " answers are not as due"));
        if (wrong != 0) {
            System.exit(1);
        }
    }

    private static void tell(String what) {
        wrong++;
        System.out.println("\"" + words + "\": " + what);
    }
}
