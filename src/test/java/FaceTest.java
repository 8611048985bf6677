import java.io.IOException;
import java.lang.reflect.Field;
import java.lang.reflect.Method;
import java.lang.reflect.Modifier;
import java.nio.file.Files;
import java.nio.file.Path;
import java.util.Arrays;
import java.util.Set;
import java.util.TreeSet;

/** The public face, and what LANGUAGE.md rules out as far as it can be seen in the text. */
public final class FaceTest {
    private static final String[] FACE = {
        "int insert(int, int, int, long)", "int remove(int, int, int)",
        "int extend(int, int, int, int)", "int state(int, int)", "int chunk(int, int)",
        "int rescale(int)", "int mark(int)", "int drop(int)", "int back(int)", "int usable(int)",
        "int markTold(int, int)", "int list(int, int, int)", "boolean same(int, int)",
        "int partTold(int, int)", "int partByte(int, int, int)", "int alter(int, int, int, int)",
        "int lose(int, int)", "int told(int)",
    };
    private static final Due due = new Due();

    public static void main(String[] args) throws IOException {
        methods();
        fields();
        nestedClasses();
        text();
        due.end();
    }

    private static String told(Method method) {
        String types = Arrays.toString(method.getParameterTypes());
        return method.getReturnType() + " " + method.getName() + "("
            + types.substring(1, types.length() - 1) + ")";
    }

    private static void methods() {
        Set<String> open = new TreeSet<>();
        Set<String> names = new TreeSet<>();
        for (Method method : GrownSnapshots.class.getDeclaredMethods()) {
            if (!Modifier.isPrivate(method.getModifiers())) {
                open.add(told(method));
                names.add(method.getName());
                due.is(method + " is public", Modifier.isPublic(method.getModifiers()), true);
            }
        }
        due.is("the face is " + open, open.equals(new TreeSet<>(Arrays.asList(FACE))), true);
        for (Method method : GrownSnapshots.class.getDeclaredMethods()) {
            if (Modifier.isPrivate(method.getModifiers())) {
                due.is(method + " has a public one's name", names.contains(method.getName()), false);
            }
        }
    }

    private static void fields() {
        due.is("NONE", GrownSnapshots.NONE, -1);
        due.is("BAD", GrownSnapshots.BAD, -2);
        due.is("FULL", GrownSnapshots.FULL, -3);
        Set<String> open = new TreeSet<>();
        for (Field field : GrownSnapshots.class.getDeclaredFields()) {
            int modifiers = field.getModifiers();
            if (!Modifier.isPrivate(modifiers)) {
                open.add(field.getName());
            }
            if (Modifier.isStatic(modifiers)) {
                due.is(field + " is final", Modifier.isFinal(modifiers), true);
            }
        }
        due.is("open fields " + open, open.equals(Set.of("NONE", "BAD", "FULL")), true);
    }

    private static void nestedClasses() {
        for (Class<?> inside : GrownSnapshots.class.getDeclaredClasses()) {
            due.is(inside + " is static", Modifier.isStatic(inside.getModifiers()), true);
        }
    }

    private static void text() throws IOException {
        String text = Files.readString(Path.of("src/main/java/GrownSnapshots.java"));
        String code = text.replaceAll("(?s)/\\*.*?\\*/", "").replaceAll("//[^\n]*", "");
        for (String word : new String[] {"throw", "throws", "try", "catch", "synchronized",
            "assert", "import", "package", "Arrays"}) {
            due.is("the word " + word, code.matches("(?s).*\\b" + word + "\\b.*"), false);
        }
        due.is("no Exact", code.contains("Exact"), false);
        due.is("no lambda", code.contains("->"), false);
        due.is("no method reference", code.contains("::"), false);
    }
}
