import java.io.IOException;
import java.lang.reflect.Method;
import java.lang.reflect.Modifier;
import java.nio.file.Files;
import java.nio.file.Path;
import java.util.regex.Matcher;
import java.util.regex.Pattern;

/** README.md is true: what its example says is what the class answers. */
public final class ReadmeTest {
    private static final Checks checks = new Checks();
    private static final Pattern MADE = Pattern.compile("TreeDebts x = new TreeDebts\\(\\);");
    private static final Pattern TOLD = Pattern.compile("tell\\(x, \"([^\"]*)\"\\);");
    private static final Pattern CALL = Pattern.compile("x\\.(\\w+)\\(([^)]*)\\); +// (\\w+): .*");

    public static void main(String[] args) throws Exception {
        String page = Files.readString(Path.of("README.md"));
        example(blockFrom(page, "TreeDebts x = new TreeDebts();"));
        tellIsTheOneHere(blockFrom(page, "static void tell("));
        everyCallIsNamed(page);
        checks.end();
    }

    /** The lines from one that begins so to the end of its block. */
    private static String blockFrom(String page, String beginning) {
        int from = page.indexOf("```java\n" + beginning);
        checks.holds("README.md has a block '" + beginning + "..'", from >= 0);
        if (from < 0) return "";
        int begin = from + "```java\n".length();
        return page.substring(begin, page.indexOf("```", begin));
    }

    private static void example(String block) throws Exception {
        TreeDebts x = new TreeDebts();
        for (String line : block.split("\n")) {
            Matcher told = TOLD.matcher(line);
            Matcher call = CALL.matcher(line);
            if (told.matches()) tell(x, told.group(1));
            else if (call.matches()) checks.due(line, answer(x, call.group(1), call.group(2)), number(call.group(3)));
            else checks.holds("this line can be read: " + line, MADE.matcher(line).matches());
        }
    }

    private static int answer(TreeDebts x, String name, String arguments) throws Exception {
        Integer[] numbers = arguments.isEmpty() ? new Integer[0]
            : Pattern.compile(", ").splitAsStream(arguments).map(ReadmeTest::number).toArray(Integer[]::new);
        for (Method m : TreeDebts.class.getMethods()) {
            if (m.getName().equals(name) && m.getParameterCount() == numbers.length) {
                return (int) m.invoke(x, (Object[]) numbers);
            }
        }
        throw new IllegalStateException("there is no such call: " + name);
    }

    private static int number(String told) {
        switch (told.replace("TreeDebts.", "")) {
            case "NONE": return TreeDebts.NONE;
            case "UNKNOWN": return TreeDebts.UNKNOWN;
            case "OUTSIDE": return TreeDebts.OUTSIDE;
            case "NOT": return TreeDebts.NOT;
            case "FULL": return TreeDebts.FULL;
            default: return Integer.parseInt(told);
        }
    }

    /** So that what the page shows has been compiled and used. */
    private static void tellIsTheOneHere(String block) throws IOException {
        String here = Files.readString(Path.of("src/test/java/ReadmeTest.java"));
        checks.holds("tell of README.md is that of ReadmeTest", here.contains(block.strip().indent(4)));
    }

    private static void everyCallIsNamed(String page) {
        for (Method m : TreeDebts.class.getDeclaredMethods()) {
            if (!Modifier.isPublic(m.getModifiers())) continue;
            boolean isNamed = Pattern.compile("(?m)^\\| .*`" + m.getName() + "\\([^)]*\\)`.* \\|$").matcher(page).find();
            checks.holds("a row of README.md names " + m.getName(), isNamed);
        }
    }

    static void tell(TreeDebts x, String text) {
        for (int at = 0; at < text.length(); at += 8) {
            int n = Math.min(8, text.length() - at);
            long row = 0;
            for (int i = 0; i < n; i++) row |= (text.charAt(at + i) & 255L) << 8 * i;
            x.write(row, n);
        }
    }
}
