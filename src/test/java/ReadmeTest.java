import java.io.IOException;
import java.lang.reflect.Method;
import java.lang.reflect.Modifier;
import java.nio.file.DirectoryStream;
import java.nio.file.Files;
import java.nio.file.Path;
import java.util.ArrayList;
import java.util.List;

/** README.md: its example answers what stands behind its lines; it names each call and each test. */
public final class ReadmeTest {
    private static int wrong = 0;
    private static int next = 0;
    private static List<String> lines;

    private ReadmeTest() { }

    public static void main(String[] args) throws IOException {
        String page = Files.readString(Path.of("README.md"));
        lines = exampleOf(page);
        if (!lines.isEmpty()) {
            checkExample();
        }
        checkCalls(page);
        checkTests(page);
        System.out.println(wrong == 0 ? "the page is as due" : wrong + " faults");
        if (wrong != 0) {
            System.exit(1);
        }
    }

    private static void check(boolean fine, String what) {
        if (!fine) {
            wrong++;
            System.out.println("README.md: " + what);
        }
    }

    private static List<String> exampleOf(String page) {
        List<String> found = new ArrayList<>();
        int begin = page.indexOf("```java\n");
        int end = begin < 0 ? -1 : page.indexOf("```", begin + 8);
        if (end >= 0) {
            found.addAll(List.of(page.substring(begin + 8, end).split("\n")));
        }
        check(!found.isEmpty(), "it has no example");
        return found;
    }

    /** The next line of the example is this statement, and its answer stands behind it. */
    private static void line(String statement, Object answer) {
        String written = next < lines.size() ? lines.get(next) : "";
        next++;
        String[] halves = written.split("\\s*// ", 2);
        check(halves[0].equals(statement), "\"" + written + "\" stands where \"" + statement + "\" is due");
        String behind = halves.length < 2 ? "" : halves[1].split(":", 2)[0];
        check(behind.equals(String.valueOf(answer)), statement + " answers " + answer);
    }

    private static void checkExample() {
        check(lines.get(0).equals("DefaultRules r = new DefaultRules();"), "its first line");
        next = 1;
        DefaultRules r = new DefaultRules();
        int five = r.whole(5);
        line("int five = r.whole(5);", five);
        line("r.chosen(five);", r.chosen(five));
        int part = r.part(15, 1);
        line("int part = r.part(15, 1);", part);
        int sum = r.two(0, five, part);
        line("int sum = r.two(0, five, part);", sum);
        line("r.chosen(five);", r.chosen(five));
        line("r.lacks(five, 0);", r.lacks(five, 0));
        line("Double.longBitsToDouble(r.value(sum));", Double.longBitsToDouble(r.value(sum)));
        line("r.tell(sum, 3);", r.tell(sum, 3));
        line("Float.intBitsToFloat((int) r.value(sum));", Float.intBitsToFloat((int) r.value(sum)));
        int cut = r.turn(1, sum);
        line("int cut = r.turn(1, sum);", cut);
        line("r.value(cut);", r.value(cut));
        int by = r.two(4, cut, r.whole(0));
        line("int by = r.two(4, cut, r.whole(0));", by);
        line("r.compare(by, cut);", r.compare(by, cut));
        int some = r.some();
        line("int some = r.some();", some);
        line("r.chosen(some);", r.chosen(some));
        line("r.need(some, 2);", r.need(some, 2));
        line("r.wider(true);", r.wider(true));
        line("r.chosen(some);", r.chosen(some));
        check(next == lines.size(), "its example has " + lines.size() + " lines, " + next + " are tried");
    }

    private static void checkCalls(String page) {
        for (Method m : DefaultRules.class.getDeclaredMethods()) {
            if (Modifier.isPublic(m.getModifiers())) {
                check(page.contains("`" + m.getName() + "("), "it does not name " + m.getName());
            }
        }
    }

    private static void checkTests(String page) throws IOException {
        check(page.contains(".ci/run"), "it does not name .ci/run");
        try (DirectoryStream<Path> tests = Files.newDirectoryStream(Path.of("src/test/java"))) {
            for (Path each : tests) {
                check(page.contains(each.getFileName().toString()), "it does not name " + each);
            }
        }
    }
}
