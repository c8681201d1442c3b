import java.io.IOException;
import java.lang.reflect.Field;
import java.lang.reflect.Method;
import java.lang.reflect.Modifier;
import java.nio.file.Files;
import java.nio.file.Path;
import java.util.ArrayList;
import java.util.Arrays;
import java.util.List;
import java.util.Set;
import java.util.TreeSet;
import java.util.regex.Matcher;
import java.util.regex.Pattern;
import java.util.stream.Collectors;

/** README.md, read from the project's directory: it tells every call and constant, and its example answers as it says. */
public final class ReadmeTest {
    private static final Pattern EXAMPLE = Pattern.compile("machine\\.(\\w+)\\(([^)]*)\\); +// (true|false|-?\\d+): .*");

    public static void main(String[] args) throws IOException, ReflectiveOperationException {
        List<String> lines = Files.readAllLines(Path.of("README.md"));
        example(lines);
        calls(lines);
        constants(lines);
        Due.end();
    }

    private static void example(List<String> lines) throws ReflectiveOperationException {
        Due.is("the example begins with ten bins",
                lines.stream().anyMatch(l -> l.startsWith("PassSearch machine = new PassSearch(10);")), true);
        PassSearch machine = new PassSearch(10);
        Set<String> called = new TreeSet<>();
        for (String line : lines) {
            if (line.startsWith("machine.")) {
                Matcher call = EXAMPLE.matcher(line);
                Due.is("an answer stands in the line: " + line, call.matches(), true);
                called.add(call.group(1));
                Due.same(line, answer(machine, call.group(1), call.group(2)), call.group(3));
            }
        }
        Due.same("the calls of the example", called,
                face().stream().map(Method::getName).collect(Collectors.toCollection(TreeSet::new)));
    }

    private static String answer(PassSearch machine, String name, String numbers) throws ReflectiveOperationException {
        Method method = face().stream().filter(m -> m.getName().equals(name)).findFirst().orElseThrow();
        List<Object> given = new ArrayList<>();
        for (Class<?> type : method.getParameterTypes()) {
            String number = numbers.split(", ")[given.size()];
            if (type == long.class) {
                given.add(Long.valueOf(number));
            } else {
                given.add(Integer.valueOf(number));
            }
        }
        return String.valueOf(method.invoke(machine, given.toArray()));
    }

    /** A row of the table for each, which names what it throws. */
    private static void calls(List<String> lines) {
        for (Method method : face()) {
            String types = Arrays.stream(method.getParameterTypes()).map(t -> t + " \\w+").collect(Collectors.joining(", "));
            Pattern row = Pattern.compile("\\| `" + method.getReturnType() + " " + method.getName() + "\\(" + types + "\\)` .*");
            List<String> rows = lines.stream().filter(l -> row.matcher(l).matches()).collect(Collectors.toList());
            Due.is("rows of " + method.getName(), rows.size(), 1);
            for (Class<?> thrown : method.getExceptionTypes()) {
                Due.is("the row of " + method.getName() + " names " + thrown.getSimpleName(),
                        rows.stream().allMatch(l -> l.contains("throws `" + thrown.getSimpleName() + "`")), true);
            }
        }
        Due.is("the constructor has a row", lines.stream().anyMatch(l -> l.startsWith("| `PassSearch(int bins)` ")), true);
    }

    private static void constants(List<String> lines) throws ReflectiveOperationException {
        for (Field field : PassSearch.class.getFields()) {
            String row = "| `" + field.getName() + "` | " + field.get(null) + " | ";
            Due.is("there is a row that begins " + row, lines.stream().anyMatch(l -> l.startsWith(row)), true);
        }
    }

    private static List<Method> face() {
        return Arrays.stream(PassSearch.class.getDeclaredMethods())
                .filter(m -> Modifier.isPublic(m.getModifiers())).collect(Collectors.toList());
    }
}
