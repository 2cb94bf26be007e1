import java.io.IOException;
import java.lang.reflect.Method;
import java.lang.reflect.Modifier;
import java.nio.file.Files;
import java.nio.file.Path;
import java.util.List;
import java.util.regex.Matcher;
import java.util.regex.Pattern;

/** README.md: its examples answer what it says behind them, and its tables tell of the whole face. */
public final class ReadmeTest {
    private static final Check CHECK = new Check();
    private static final Path README = Path.of("README.md");
    private static final Pattern TEXT = Pattern.compile("for \\(char c : \"(\\w*)\"\\.toCharArray\\(\\)\\) \\{");
    private static final Pattern CALL = Pattern.compile("lead\\.(\\w+)\\((.*)\\);\\s*// (-?\\d+)(\\D.*)?");

    private LameLead lead;
    private int examples;
    private int calls;

    public static void main(String[] args) throws IOException, ReflectiveOperationException {
        List<String> lines = Files.readAllLines(README);
        new ReadmeTest().runExamples(lines);
        tellsOfAllCalls(lines);
        tellsOfAllConstants(lines);
        tellsOfAllTests(lines);
        CHECK.end("ReadmeTest");
    }

    private void runExamples(List<String> lines) throws ReflectiveOperationException {
        boolean inside = false;
        for (String line : lines) {
            if (line.startsWith("```")) {
                inside = line.equals("```java");
            } else if (inside) {
                run(line.strip());
            }
        }
        CHECK.due("examples", examples, 2);
        CHECK.isSo("calls in them: " + calls, calls > 30);
    }

    private void run(String line) throws ReflectiveOperationException {
        Matcher text = TEXT.matcher(line);
        Matcher call = CALL.matcher(line);
        if (line.equals("LameLead lead = new LameLead();")) {
            lead = new LameLead();
            examples++;
        } else if (text.matches()) {
            Check.tell(lead, text.group(1));
        } else if (call.matches()) {
            calls++;
            CHECK.due(line, answer(call.group(1), call.group(2)), Long.parseLong(call.group(3)));
        } else {
            CHECK.isSo("of no known form: " + line, line.isEmpty() || line.equals("lead.write(c);") || line.equals("}"));
        }
    }

    private long answer(String name, String told) throws ReflectiveOperationException {
        Method method = methodOf(name);
        String[] words = told.isEmpty() ? new String[0] : told.split(", ");
        Object[] values = new Object[words.length];
        for (int i = 0; i < words.length; i++) {
            values[i] = valueOf(words[i], method.getParameterTypes()[i]);
        }
        return ((Number) method.invoke(lead, values)).longValue();
    }

    private static Method methodOf(String name) {
        for (Method method : LameLead.class.getDeclaredMethods()) {
            if (Modifier.isPublic(method.getModifiers()) && method.getName().equals(name)) {
                return method;
            }
        }
        throw new IllegalStateException("no such call: " + name);
    }

    private static Object valueOf(String word, Class<?> type) {
        if (type == boolean.class) {
            return Boolean.valueOf(word);
        }
        if (type == long.class) {
            return Long.valueOf(word.replace("L", ""));
        }
        return word.startsWith("'") ? (int) word.charAt(1) : Integer.parseInt(word);
    }

    /** Each call has a row that begins with it, with as many parameters as it has. */
    private static void tellsOfAllCalls(List<String> lines) {
        int told = 0;
        for (Method method : LameLead.class.getDeclaredMethods()) {
            if (Modifier.isPublic(method.getModifiers())) {
                String parameters = "\\w+, ".repeat(method.getParameterCount()).replaceAll(", $", "");
                Pattern row = Pattern.compile("\\| `" + method.getName() + "\\(" + parameters + "\\)` \\|.*");
                CHECK.due("rows of " + method.getName(), rowsLike(row, lines), 1);
                told++;
            }
        }
        CHECK.due("calls", told, 28);
    }

    private static void tellsOfAllConstants(List<String> lines) {
        String[] names = {"UNKNOWN", "BAD", "LATE", "FULL"};
        int[] values = {LameLead.UNKNOWN, LameLead.BAD, LameLead.LATE, LameLead.FULL};
        for (int i = 0; i < names.length; i++) {
            Pattern row = Pattern.compile("\\| `" + names[i] + "` \\| " + values[i] + " \\|.*");
            CHECK.due("rows of " + names[i], rowsLike(row, lines), 1);
        }
        Pattern none = Pattern.compile("`NONE` \\(" + LameLead.NONE + "\\) .*");
        CHECK.due("sentences of NONE", rowsLike(none, lines), 1);
    }

    private static void tellsOfAllTests(List<String> lines) throws IOException {
        try (var files = Files.list(Path.of("src/test/java"))) {
            for (Path file : files.sorted().toList()) {
                String name = file.getFileName().toString().replace(".java", "");
                Pattern row = Pattern.compile("\\| `" + name + "` \\|.*");
                if (name.endsWith("Test")) {
                    CHECK.due("rows of " + name, rowsLike(row, lines), 1);
                }
            }
        }
    }

    private static int rowsLike(Pattern row, List<String> lines) {
        return (int) lines.stream().filter(line -> row.matcher(line).matches()).count();
    }
}
