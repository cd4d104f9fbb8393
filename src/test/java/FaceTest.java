import java.io.IOException;
import java.lang.reflect.Constructor;
import java.lang.reflect.Field;
import java.lang.reflect.Method;
import java.lang.reflect.Modifier;
import java.nio.file.Files;
import java.nio.file.Path;
import java.util.Set;
import java.util.TreeSet;
import java.util.regex.Matcher;
import java.util.regex.Pattern;

/** The public face as the document has it, and those rules of LANGUAGE.md that a look at the file can tell. */
public final class FaceTest {
    private static final Checks checks = new Checks();
    private static final Set<String> METHODS = Set.of("write(long,int)", "erase()", "fault()", "wood()",
        "tree(int,int)", "loan(int,int)", "as(int,int)", "borrow(int,int)", "days(int)", "fire(int)", "sell(int,int)",
        "keep(int)", "back(int)", "later(int,int)", "all(int,int)", "clear()", "hut(int,int,int)", "enough(int)",
        "rid(int,int)", "grandson(int)", "toWhom(int,int,int)", "count(int)");

    public static void main(String[] args) throws IOException {
        constants();
        members();
        words();
        checks.end();
    }

    private static void constants() {
        checks.due("NONE", TreeDebts.NONE, -1);
        checks.due("UNKNOWN", TreeDebts.UNKNOWN, -2);
        checks.due("OUTSIDE", TreeDebts.OUTSIDE, -3);
        checks.due("NOT", TreeDebts.NOT, -4);
        checks.due("FULL", TreeDebts.FULL, -5);
    }

    private static void members() {
        Class<?> face = TreeDebts.class;
        checks.holds("public and final", Modifier.isPublic(face.getModifiers()) && Modifier.isFinal(face.getModifiers()));
        Set<String> open = new TreeSet<>();
        Set<String> names = new TreeSet<>();
        for (Method m : face.getDeclaredMethods()) {
            if (Modifier.isPrivate(m.getModifiers())) continue;
            String arguments = m.toString().replaceAll(".*\\(", "(");
            open.add(m.getName() + arguments);
            names.add(m.getName());
            checks.holds(m + " is public and answers int", Modifier.isPublic(m.getModifiers()) && m.getReturnType() == int.class);
        }
        checks.holds("the methods are those of the document: " + open, open.equals(METHODS));
        Set<String> fields = new TreeSet<>();
        for (Field f : face.getDeclaredFields()) {
            if (!Modifier.isPrivate(f.getModifiers())) fields.add(f.getName());
            checks.holds(f + ": static fields are final",
                !Modifier.isStatic(f.getModifiers()) || Modifier.isFinal(f.getModifiers()));
        }
        checks.holds("the constants are those of the document: " + fields,
            fields.equals(Set.of("NONE", "UNKNOWN", "OUTSIDE", "NOT", "FULL")));
        Constructor<?>[] made = face.getDeclaredConstructors();
        checks.holds("one public constructor", made.length == 1 && made[0].getParameterCount() == 0
            && Modifier.isPublic(made[0].getModifiers()));
        for (Class<?> inside : face.getDeclaredClasses()) {
            checks.holds(inside + " is static", Modifier.isStatic(inside.getModifiers()));
            for (Method m : inside.getDeclaredMethods()) {
                checks.holds(m + " bears no name of the face", !names.contains(m.getName()));
            }
        }
    }

    private static void words() throws IOException {
        String code = Files.readString(Path.of("src/main/java/TreeDebts.java"));
        checks.holds("signs 1 to 127 alone", code.chars().allMatch(c -> c > 0 && c < 128));
        String bare = code.replaceAll("(?s)/\\*.*?\\*/", " ").replaceAll("//.*", " ").replaceAll("\"[^\"]*\"", "\"\"");
        Matcher m = Pattern.compile("\\b(throw|throws|try|catch|synchronized|assert|import|package|protected)\\b|->|::")
            .matcher(bare);
        checks.holds("no word that LANGUAGE.md rules out", !m.find());
    }
}
