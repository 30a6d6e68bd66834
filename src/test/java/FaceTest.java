import java.lang.reflect.Constructor;
import java.lang.reflect.Field;
import java.lang.reflect.Method;
import java.lang.reflect.Modifier;
import java.nio.file.Files;
import java.nio.file.Path;
import java.util.ArrayList;
import java.util.Arrays;
import java.util.List;
import java.util.Set;
import java.util.TreeSet;
import java.util.regex.Matcher;
import java.util.regex.Pattern;

/** The public face of the document, and those rules of LANGUAGE.md that a look at the source shows. */
public final class FaceTest {
    private static final Set<String> FACE = new TreeSet<>(List.of(
        "int family(int, boolean)", "int type(int)", "int instance(int, int)", "int has(int, int)",
        "int list(int)", "int wider(boolean)", "int whole(int)", "int part(int, int)", "int some()",
        "int two(int, int, int)", "int one(int, int)", "int turn(int, int)", "int need(int, int)",
        "int tell(int, int)", "int fix(int)", "int group(int)", "int needs(int, int)",
        "int chosen(int)", "int lacks(int, int)",
        "long value(int) throws java.lang.ArithmeticException", "int compare(int, int)"));

    /** What rules 2 to 6 and 13 leave out, as far as a word tells it. */
    private static final String[] BARRED = {
        "->", "::", "\\btry\\b", "\\bcatch\\b", "\\bfinally\\b", "\\bsynchronized\\b", "\\bassert\\b",
        "\\bDouble\\.", "\\bFloat\\.", "\\bMath\\.(?!max\\b|min\\b)", "Exact\\b", "\\bNaN\\b",
        "\\bSystem\\.(?!arraycopy)", "\\bArrays\\.(?!copyOf|fill\\b)", "\\bstatic\\s*\\{",
        "\\bstatic\\s+(?!final)\\w+\\s+\\w+\\s*[=;]",
        "\\bstatic final (double|float)\\b", "\\bpackage\\s+\\w", "\\bObject\\b", "\\bstrictfp\\b"};

    private static int wrong = 0;

    private static void check(boolean fine, String what) {
        if (!fine) {
            wrong++;
            System.out.println("wrong: " + what);
        }
    }

    public static void main(String[] args) throws Exception {
        checkFace();
        checkSizes();
        String source = Files.readString(Path.of("src/main/java/DefaultRules.java"));
        checkSource(source);
        checkParts(source);
        checkLengths(source.split("\n"), " ".repeat(4));
        checkLengths(source.split("\n"), " ".repeat(8));
        System.out.println(wrong == 0 ? "the face is as due" : wrong + " faults");
        if (wrong != 0) {
            System.exit(1);
        }
    }

    private static void checkFace() throws Exception {
        Class<?> type = DefaultRules.class;
        check(Modifier.isPublic(type.getModifiers()) && Modifier.isFinal(type.getModifiers()),
            "the class is public and final");
        Set<String> methods = new TreeSet<>();
        Set<String> names = new TreeSet<>();
        for (Method m : type.getDeclaredMethods()) {
            if (Modifier.isPublic(m.getModifiers())) {
                methods.add(written(m));
                names.add(m.getName());
            } else {
                check(Modifier.isPrivate(m.getModifiers()), m + " is private");
            }
        }
        check(methods.equals(FACE), "the public methods " + methods);
        for (Method m : type.getDeclaredMethods()) {
            check(Modifier.isPublic(m.getModifiers()) || !names.contains(m.getName()),
                m + " bears the name of a public method");
        }
        Constructor<?>[] constructors = type.getDeclaredConstructors();
        check(constructors.length == 1 && constructors[0].getParameterCount() == 0
            && Modifier.isPublic(constructors[0].getModifiers()), "one public constructor");
        for (Field f : type.getDeclaredFields()) {
            boolean constant = f.getName().equals("NOTHING");
            check(constant == Modifier.isPublic(f.getModifiers())
                && (constant || Modifier.isPrivate(f.getModifiers())), "the field " + f);
        }
        check(DefaultRules.NOTHING == Long.MIN_VALUE, "NOTHING");
        for (Class<?> inside : type.getDeclaredClasses()) {
            check(Modifier.isStatic(inside.getModifiers()), inside + " is static");
            for (Method m : inside.getDeclaredMethods()) {
                check(!names.contains(m.getName()), m + " bears the name of a public method");
            }
        }
    }

    /** Rule 11: parameters, classes, fields beside the constants. */
    private static void checkSizes() {
        List<Class<?>> all = new ArrayList<>(List.of(DefaultRules.class.getDeclaredClasses()));
        all.add(DefaultRules.class);
        check(all.size() <= 12, all.size() + " classes");
        for (Class<?> each : all) {
            int fields = 0;
            for (Field f : each.getDeclaredFields()) {
                boolean isStatic = Modifier.isStatic(f.getModifiers());
                check(!isStatic || Modifier.isFinal(f.getModifiers()), f + " is static, but not final");
                fields += isStatic ? 0 : 1;
            }
            check(fields <= 20, each + " has " + fields + " fields");
            for (Method m : each.getDeclaredMethods()) {
                check(m.getParameterCount() <= 7, m + " has too many parameters");
            }
        }
    }

    /** Rule 11: methods of some sixty lines; those of the outer class stand 4 deep, others 8. */
    private static void checkLengths(String[] lines, String depth) {
        int begin = -1;
        for (int i = 0; i < lines.length; i++) {
            if (lines[i].matches(depth + "\\w.*\\).*\\{")) {
                begin = i;
            } else if (begin >= 0 && lines[i].equals(depth + "}")) {
                check(i - begin < 60, "a method too long, from line " + (begin + 1));
                begin = -1;
            }
        }
    }

    /** "Ahead of the calls .. the interface says: ..". */
    private static void checkParts(String source) {
        checkOrder(source, "int wider(", "// ---- nodes\n", "int whole(");
        checkOrder(source, "int fix(", "// ---- what comes\n", "int group(");
    }

    private static void checkOrder(String source, String first, String second, String third) {
        int at = source.indexOf(second);
        check(source.indexOf(first) < at && at < source.indexOf(third), second + " ahead of " + third);
    }

    private static String written(Method m) {
        String parameters = String.join(", ",
            Arrays.stream(m.getParameterTypes()).map(Class::getName).toArray(String[]::new));
        String text = m.getReturnType().getName() + " " + m.getName() + "(" + parameters + ")";
        return m.getExceptionTypes().length == 0 ? text
            : text + " throws " + m.getExceptionTypes()[0].getName();
    }

    private static void checkSource(String source) {
        String code = source.replaceAll("(?s)/\\*.*?\\*/", " ").replaceAll("//[^\n]*", " ");
        for (String word : BARRED) {
            Matcher m = Pattern.compile(word).matcher(code);
            check(!m.find(), "the source holds what is barred: " + word);
        }
        Matcher imports = Pattern.compile("import\\s+([\\w.]+);").matcher(code);
        while (imports.find()) {
            check(Set.of("java.util.Arrays", "java.util.ArrayList", "java.util.List")
                .contains(imports.group(1)), "import " + imports.group(1));
        }
        for (int i = 0; i < source.length(); i++) {
            check(source.charAt(i) < 128, "a sign beyond 127 at " + i);
        }
    }
}
