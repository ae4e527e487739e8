import java.io.IOException;
import java.lang.reflect.Field;
import java.lang.reflect.Method;
import java.lang.reflect.Modifier;
import java.nio.file.Files;
import java.nio.file.Path;
import java.util.regex.Matcher;
import java.util.regex.Pattern;

/** README.md, that its example answers as it says, and that it names every call and constant as it is. */
public final class ReadmeTest {
    private static final Pattern EXAMPLE_CALL = Pattern.compile("shop\\.(\\w+)\\(([^)]*)\\);\\s+// .*: (-?\\d+)");

    public static void main(String[] args) throws IOException, ReflectiveOperationException {
        Due due = new Due("ReadmeTest");
        String text = args.length == 1 ? Files.readString(readme(Path.of(args[0]))) : "";
        due.is("the path of the class is given", args.length, 1);
        example(due, text);
        due.part("calls", d -> calls(d, text));
        constants(due, text);
        due.end();
    }

    /** README.md stands four directories above src/main/java/WindowLetters.java. */
    private static Path readme(Path main) {
        return main.toAbsolutePath().normalize().resolve("../../../../README.md").normalize();
    }

    private static void example(Due due, String text) throws ReflectiveOperationException {
        String begin = "```java\nWindowLetters shop = new WindowLetters();\n";
        int from = text.indexOf(begin);
        int to = text.indexOf("```", from + begin.length());
        due.is("README.md has an example", from >= 0 && to >= 0 ? 1 : 0, 1);
        if (from < 0 || to < 0) {
            return;
        }
        WindowLetters shop = new WindowLetters();
        for (String line : text.substring(from + begin.length(), to).split("\n")) {
            Matcher call = EXAMPLE_CALL.matcher(line);
            boolean readable = call.matches();
            due.is("whether it is a call with its answer: " + line, readable ? 1 : 0, 1);
            if (readable) {
                due.is(line, answer(shop, call.group(1), call.group(2)), Integer.parseInt(call.group(3)));
            }
        }
    }

    private static int answer(WindowLetters shop, String name, String arguments) throws ReflectiveOperationException {
        Method method = named(name);
        String[] written = arguments.isEmpty() ? new String[0] : arguments.split(", ");
        Object[] given = new Object[written.length];
        for (int i = 0; i < written.length; i++) {
            long number = Long.decode(written[i].replace("L", ""));
            if (method.getParameterTypes()[i] == long.class) {
                given[i] = number;
            } else {
                given[i] = (int) number;
            }
        }
        return (Integer) method.invoke(shop, given);
    }

    private static Method named(String name) throws NoSuchMethodException {
        for (Method method : WindowLetters.class.getDeclaredMethods()) {
            if (Modifier.isPublic(method.getModifiers()) && method.getName().equals(name)) {
                return method;
            }
        }
        throw new NoSuchMethodException(name);
    }

    /** Each call stands once as the first cell of a table's row, with as many parameters as it has. */
    private static void calls(Due due, String text) {
        for (Method method : WindowLetters.class.getDeclaredMethods()) {
            if (!Modifier.isPublic(method.getModifiers())) {
                continue;
            }
            StringBuilder head = new StringBuilder("(?m)^\\| `").append(method.getName()).append("\\(");
            for (int i = 0; i < method.getParameterCount(); i++) {
                head.append(i == 0 ? "\\w+" : ", \\w+");
            }
            Matcher rows = Pattern.compile(head.append("\\)` \\|").toString()).matcher(text);
            due.is("rows that tell of " + method.getName(), rows.results().count(), 1);
        }
        long rows = Pattern.compile("(?m)^\\| `\\w+\\(").matcher(text).results().count();
        due.is("rows that tell of calls", rows, 24);
    }

    private static void constants(Due due, String text) throws IllegalAccessException {
        int open = 0;
        for (Field field : WindowLetters.class.getDeclaredFields()) {
            if (Modifier.isPublic(field.getModifiers())) {
                String cells = "| `" + field.getName() + "` | " + field.getInt(null) + " |";
                due.is("whether README.md has " + cells, text.contains(cells) ? 1 : 0, 1);
                open++;
            }
        }
        due.is("constants", open, 6);
    }
}
