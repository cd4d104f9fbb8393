import java.io.IOException;
import java.lang.reflect.Constructor;
import java.lang.reflect.Field;
import java.lang.reflect.Method;
import java.lang.reflect.Modifier;
import java.nio.file.Files;
import java.nio.file.Path;
import java.util.ArrayList;
import java.util.List;
import java.util.Set;
import java.util.TreeSet;
import java.util.regex.Matcher;
import java.util.regex.Pattern;

/** The public face as the document has it, and those rules of LANGUAGE.md that a look at the file can tell. */
public final class FaceTest {
    private static final Checks checks = new Checks();
    private static final Set<String> METHODS = Set.of("write(long,int)", "erase()", "fault()", "wood()",
        "tree(int,int)", "loan(int,int)", "as(int,int)", "borrow(int,int)", "days(int)", "fire(int)", "sell(int,int)",
        "keep(int)", "back(int)", "later(int,int)", "all(int,int)", "clear()", "hut(int,int,int)", "enough(int)",
        "rid(int,int)", "grandson(int)", "toWhom(int,int,int)", "count(int)");

    public static void main(String[] args) throws IOException {
        constants();
        members();
        sizes();
        words();
        checks.end();
    }

    private static void constants() {
        checks.due("NONE", TreeDebts.NONE, -1);
        checks.due("UNKNOWN", TreeDebts.UNKNOWN, -2);
        checks.due("OUTSIDE", TreeDebts.OUTSIDE, -3);
        checks.due("NOT", TreeDebts.NOT, -4);
        checks.due("FULL", TreeDebts.FULL, -5);
    }

    private static void members() {
        Class<?> face = TreeDebts.class;
        checks.holds("public and final", Modifier.isPublic(face.getModifiers()) && Modifier.isFinal(face.getModifiers()));
        Set<String> open = new TreeSet<>();
        Set<String> names = new TreeSet<>();
        for (Method m : face.getDeclaredMethods()) {
            if (Modifier.isPrivate(m.getModifiers())) continue;
            String arguments = m.toString().replaceAll(".*\\(", "(");
            open.add(m.getName() + arguments);
            names.add(m.getName());
            checks.holds(m + " is public and answers int", Modifier.isPublic(m.getModifiers()) && m.getReturnType() == int.class);
        }
        checks.holds("the methods are those of the document: " + open, open.equals(METHODS));
        Set<String> fields = new TreeSet<>();
        for (Field f : face.getDeclaredFields()) {
            if (!Modifier.isPrivate(f.getModifiers())) fields.add(f.getName());
            checks.holds(f + ": static fields are final",
                !Modifier.isStatic(f.getModifiers()) || Modifier.isFinal(f.getModifiers()));
        }
        checks.holds("the constants are those of the document: " + fields,
            fields.equals(Set.of("NONE", "UNKNOWN", "OUTSIDE", "NOT", "FULL")));
        Constructor<?>[] made = face.getDeclaredConstructors();
        checks.holds("one public constructor", made.length == 1 && made[0].getParameterCount() == 0
            && Modifier.isPublic(made[0].getModifiers()));
        for (Method m : face.getDeclaredMethods()) {
            checks.holds(m + ": no private method bears a name of the face",
                !Modifier.isPrivate(m.getModifiers()) || !names.contains(m.getName()));
        }
        for (Class<?> inside : face.getDeclaredClasses()) {
            checks.holds(inside + " is static", Modifier.isStatic(inside.getModifiers()));
            for (Method m : inside.getDeclaredMethods()) {
                checks.holds(m + " bears no name of the face", !names.contains(m.getName()));
            }
        }
    }

    /** Rule 11, as far as it can be seen without the bodies of methods; rules 3 and 5 for fields. */
    private static void sizes() {
        List<Class<?>> classes = new ArrayList<>(List.of(TreeDebts.class.getDeclaredClasses()));
        classes.add(TreeDebts.class);
        checks.holds("twelve classes at most", classes.size() <= 12);
        for (Class<?> c : classes) {
            int fields = 0;
            for (Field f : c.getDeclaredFields()) {
                if (!Modifier.isStatic(f.getModifiers())) fields++;
                else checks.holds(f + ": static fields are final constants", Modifier.isFinal(f.getModifiers())
                    && (f.getType() == int.class || f.getType() == int[].class));
                checks.holds(f + ": arrays of two dimensions hold numbers",
                    !f.getType().getName().matches("\\[\\[(\\[|L|Z).*"));
            }
            checks.holds(c + ": twenty fields at most", fields <= 20);
            for (Method m : c.getDeclaredMethods()) {
                checks.holds(m + ": seven parameters at most", m.getParameterCount() <= 7);
            }
        }
    }

    private static void words() throws IOException {
        String code = Files.readString(Path.of("src/main/java/TreeDebts.java"));
        checks.holds("signs 1 to 127 alone", code.chars().allMatch(c -> c > 0 && c < 128));
        String bare = code.replaceAll("(?s)/\\*.*?\\*/", " ").replaceAll("//.*", " ").replaceAll("\"[^\"]*\"", "\"\"");
        Matcher m = Pattern.compile("\\b(throw|throws|try|catch|synchronized|assert|import|package|protected)\\b|->|::")
            .matcher(bare);
        checks.holds("no word that LANGUAGE.md rules out", !m.find());
        Matcher library = Pattern.compile("\\b(System|Math|Integer|Long|Arrays|List|Character|String|Object)\\.(\\w+)")
            .matcher(bare);
        while (library.find()) {
            checks.holds(library.group() + " is of the library that LANGUAGE.md lists",
                library.group().matches("System.arraycopy|Math.(min|max|abs)|Integer.(bitCount|compare|max|min)"));
        }
    }
}
