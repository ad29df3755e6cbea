import java.io.IOException;
import java.lang.reflect.Method;
import java.lang.reflect.Modifier;
import java.nio.file.Files;
import java.nio.file.Path;
import java.util.List;

/** Holds README.md against the class: its example, and the rows of its methods. */
public final class ReadmeTests {
    private static final Answers A = new Answers();

    private final List<String> lines;
    private final KeyframeCourt court = new KeyframeCourt();
    private int told = 0;

    private ReadmeTests(List<String> lines) {
        this.lines = lines;
    }

    public static void main(String[] args) throws IOException {
        ReadmeTests test = new ReadmeTests(Files.readAllLines(Path.of("README.md")));
        test.example();
        test.methods();
        A.close("ReadmeTests");
    }

    private void example() {
        step("bone(-1, 10, 0)", () -> court.bone(-1, 10, 0));
        step("key(0, 0, 0, 100, 2, true)", () -> court.key(0, 0, 0, 100, 2, true));
        step("key(0, 0, 24, 0, 2, false)", () -> court.key(0, 0, 24, 0, 2, false));
        step("value(0, 0, 12)", () -> court.value(0, 0, 12));
        step("cut(0, 0, 24)", () -> court.cut(0, 0, 24));
        step("machine(5)", () -> court.machine(5));
        step("night(24)", () -> court.night(24));
        step("setRate(10)", () -> court.setRate(10));
        step("show()", () -> court.show());
        step("money(2)", () -> court.money(2));
        long steps = lines.stream().filter(line -> line.startsWith("court.")).count();
        A.due("steps of the example", String.valueOf(told), String.valueOf(steps));
    }

    /** The steps follow one another as the page tells them, so that an answer there can lean on all ahead. */
    private void step(String call, Answers.Call ours) {
        List<String> steps = lines.stream().filter(line -> line.startsWith("court.")).toList();
        String line = told < steps.size() ? steps.get(told) : "";
        told++;
        A.due("step " + told, "true " + call, line.startsWith("court." + call + ";") + " " + call);
        int at = line.indexOf("// ");
        int end = line.indexOf(':', Math.max(at, 0));
        String answer = at < 0 || end < 0 ? "nothing" : line.substring(at + 3, end);
        A.due("the page on " + call, Answers.of(ours), answer);
    }

    private void methods() {
        int rows = 0;
        for (Method method : KeyframeCourt.class.getDeclaredMethods()) {
            if (Modifier.isPublic(method.getModifiers())) {
                rows++;
                method(method);
            }
        }
        long all = lines.stream().filter(line -> line.startsWith("| `")).count();
        A.due("rows of methods", String.valueOf(rows), String.valueOf(all));
    }

    private void method(Method method) {
        String name = method.getName();
        List<String> rows = lines.stream().filter(line -> line.startsWith("| `" + name + "(")).toList();
        A.due("rows of " + name, "1", String.valueOf(rows.size()));
        for (String row : rows) {
            String parameters = row.substring(row.indexOf('(') + 1, row.indexOf(')'));
            int count = parameters.isEmpty() ? 0 : parameters.split(", ").length;
            A.due("parameters of " + name, String.valueOf(method.getParameterCount()), String.valueOf(count));
        }
    }
}
