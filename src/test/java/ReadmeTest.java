import java.io.IOException;
import java.lang.reflect.Method;
import java.lang.reflect.Modifier;
import java.nio.file.DirectoryStream;
import java.nio.file.Files;
import java.nio.file.Path;
import java.util.ArrayList;
import java.util.List;

/** README.md: its example answers what it tells, and it leaves no call of the face and no test out. */
public final class ReadmeTest {
    private static final Checks CHECKS = new Checks();
    private static final Path README = Path.of("README.md");

    /** What the example's lines should be, each with the answer that the program gave to it. */
    private final List<String> lines = new ArrayList<>();

    public static void main(String[] args) throws IOException {
        ReadmeTest test = new ReadmeTest();
        test.runExample();
        test.compareExample();
        namesEveryCall();
        namesEveryTest();
        CHECKS.end();
    }

    private void runExample() {
        ExplainingSolver x = new ExplainingSolver();
        lines.add("ExplainingSolver x = new ExplainingSolver();");
        int a = x.variable(0, 4);
        line("int a = x.variable(0, 4);", a);
        int b = x.variable(0, 4);
        line("int b = x.variable(0, 4);", b);
        line("x.linear(a, -1, b, -1, -1, 0, -5);", x.linear(a, -1, b, -1, -1, 0, -5));
        line("x.different((1 << a) | (1 << b));", x.different((1 << a) | (1 << b)));
        line("x.solve();", x.solve());
        line("x.value(a);", x.value(a));
        line("x.value(b);", x.value(b));
        line("x.best(b, false);", x.best(b, false));
        line("x.value(a);", x.value(a));
        line("x.value(b);", x.value(b));
        line("x.assume(a, 2, 3);", x.assume(a, 2, 3));
        line("x.value(a);", x.value(a));
        line("x.least(b);", x.least(b));
        line("x.greatest(b);", x.greatest(b));
        line("x.implies(b, 3);", x.implies(b, 3));
        line("x.retract();", x.retract());
        line("x.drop();", x.drop());
        line("x.constraints();", x.constraints());
        line("x.linear(2, 1, -1, 0, -1, 0, 5);", x.linear(2, 1, -1, 0, -1, 0, 5));
    }

    private void line(String call, Object answer) {
        lines.add(call + " // " + answer);
    }

    private void compareExample() throws IOException {
        List<String> told = example();
        CHECKS.due("lines of README.md's example", told.size(), lines.size());
        for (int n = 0; n < Math.min(told.size(), lines.size()); n++) {
            if (!told.get(n).equals(lines.get(n))) {
                CHECKS.tell("README.md tells " + told.get(n) + ", due is " + lines.get(n));
            }
        }
    }

    /** The lines of the first block of Java in README.md, each with its answer but no explanation. */
    private static List<String> example() throws IOException {
        List<String> all = Files.readAllLines(README);
        int first = all.indexOf("```java") + 1;
        List<String> told = new ArrayList<>();
        for (int n = first; n < all.size() && !all.get(n).equals("```"); n++) {
            told.add(all.get(n).replaceAll("\\s+// ([^:]*).*", " // $1"));
        }
        return told;
    }

    private static void namesEveryCall() throws IOException {
        String text = Files.readString(README);
        for (Method method : ExplainingSolver.class.getDeclaredMethods()) {
            if (Modifier.isPublic(method.getModifiers())) {
                CHECKS.due("README.md names " + method.getName(), text.contains("`" + method.getName() + "("), true);
            }
        }
    }

    private static void namesEveryTest() throws IOException {
        String text = Files.readString(README);
        try (DirectoryStream<Path> tests = Files.newDirectoryStream(Path.of("src/test/java"), "*Test.java")) {
            for (Path test : tests) {
                String name = test.getFileName().toString().replace(".java", "");
                CHECKS.due("README.md names " + name, text.contains("| `" + name + "` |"), true);
            }
        }
    }
}
