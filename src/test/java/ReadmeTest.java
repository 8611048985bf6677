import java.io.IOException;
import java.lang.reflect.Method;
import java.lang.reflect.Modifier;
import java.nio.file.Files;
import java.nio.file.Path;
import java.util.List;

/** README.md tells the truth: its example's answers, and a row for each call of the face. */
public final class ReadmeTest {
    private static final Due due = new Due();

    public static void main(String[] args) throws IOException {
        List<String> lines = Files.readAllLines(Path.of("README.md"));
        example(lines);
        everyCallHasARow(lines);
        due.end();
    }

    private static void example(List<String> lines) {
        GrownSnapshots x = new GrownSnapshots();
        tells(lines, "4", "x.extend(0, 20, 7, 0);", x.extend(0, 20, 7, 0));
        int first = x.mark(0);
        tells(lines, "8", "int first = x.mark(0);", first);
        tells(lines, "2", "x.insert(0, 10, 3, 0x010203L);", x.insert(0, 10, 3, 0x010203L));
        int second = x.mark(0);
        tells(lines, "8", "int second = x.mark(0);", second);
        tells(lines, "12", "x.markTold(second, 4);", x.markTold(second, 4));
        tells(lines, "17", "x.alter(0, GrownSnapshots.NONE, 0, 1);",
            x.alter(0, GrownSnapshots.NONE, 0, 1));
        tells(lines, "15", "x.partTold(0, 3);", x.partTold(0, 3));
        tells(lines, "10", "x.back(first);", x.back(first));
        tells(lines, "9", "x.drop(second);", x.drop(second));
    }

    /** The call stands on a line of its own, and the comment behind it ends with the answer. */
    private static void tells(List<String> lines, String promise, String call, int answer) {
        long telling = lines.stream()
            .filter(line -> line.startsWith(call + " ") && line.endsWith(": " + answer))
            .count();
        due.is(promise + " README.md tells " + call + " " + answer, telling, 1);
    }

    private static void everyCallHasARow(List<String> lines) {
        for (Method method : GrownSnapshots.class.getDeclaredMethods()) {
            if (Modifier.isPublic(method.getModifiers())) {
                String row = "| `" + method.getName() + "(";
                long rows = lines.stream().filter(line -> line.startsWith(row)).count();
                due.is("README.md has a row for " + method.getName(), rows, 1);
            }
        }
    }
}
