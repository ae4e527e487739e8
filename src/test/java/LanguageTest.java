import java.io.IOException;
import java.lang.reflect.Field;
import java.lang.reflect.Method;
import java.lang.reflect.Modifier;
import java.nio.file.Files;
import java.nio.file.Path;
import java.util.Arrays;
import java.util.Set;
import java.util.TreeSet;
import java.util.regex.Matcher;
import java.util.regex.Pattern;

/** The public face, and those rules of ../shared/LANGUAGE.md that can be seen from the file or the class. */
public final class LanguageTest {
    private static final String[] FACE = {
        "sheet(int)", "cut(int,int,int,int,int)", "make(int,int,int)", "write(int,int,int,int)", "place(int,int,int)",
        "clear(int)", "throwAway(int)", "scrap(int)", "of(int,int)", "ofSheet(int,int)", "row(int,int)",
        "pane(int,int)", "shape(int,int,int)", "count(int)", "fit(int,int,int,int)", "manyOf(int,int,int)",
        "fits(int,int)", "colours(int,int,int)", "put(long)", "wipe()", "fault()", "undo()", "save(int)",
        "restore(int)",
    };
    private static final String[] CONSTANTS = {"NO_SUCH", "BAD_VALUE", "BAD_TEXT", "TOO_MANY", "NOT_POSSIBLE", "NONE"};
    private static final String FORBIDDEN = "\\b(package|import|throw|throws|try|catch|finally|synchronized|assert|yield"
        + "|volatile|transient|native|strictfp|protected|System|Thread|Object|Exception|equals|hashCode|toString|float"
        + "|double|getClass|Random|Class)\\b|->|::|@|static \\{|Exact\\b";

    public static void main(String[] args) throws IOException {
        Due due = new Due("LanguageTest");
        due.part("the face", LanguageTest::face);
        due.part("rule 2 and 5, the members", LanguageTest::members);
        String text = args.length == 1 ? Files.readString(Path.of(args[0])) : "";
        due.is("the text of the class is given", text.isEmpty() ? 0 : 1, 1);
        due.part("rules 1, 4 and 6, words", d -> words(d, text));
        due.part("rule 11, sizes", d -> sizes(d, text));
        due.part("promise 1, objects stand apart", LanguageTest::objectsStandApart);
        due.end();
    }

    private static void face(Due due) {
        Class<?> face = WindowLetters.class;
        due.is("public and final", face.getModifiers(), Modifier.PUBLIC | Modifier.FINAL);
        Set<String> open = new TreeSet<>();
        Set<String> names = new TreeSet<>();
        for (Method method : face.getDeclaredMethods()) {
            if (!Modifier.isPrivate(method.getModifiers())) {
                due.is(method + " is public", method.getModifiers(), Modifier.PUBLIC);
                due.is(method + " returns an int", method.getReturnType() == int.class ? 1 : 0, 1);
                open.add(signature(method));
                names.add(method.getName());
            }
        }
        due.is("the methods " + open, open.equals(new TreeSet<>(Arrays.asList(FACE))) ? 1 : 0, 1);
        for (Class<?> one : classes()) {
            for (Method method : one.getDeclaredMethods()) {
                boolean hides = Modifier.isPrivate(method.getModifiers()) && names.contains(method.getName());
                due.is("a private method bears the name " + method.getName(), hides ? 1 : 0, 0);
            }
        }
        due.is("constructors", face.getDeclaredConstructors().length, 1);
        due.is("public constructors", face.getConstructors().length, 1);
        due.is("NO_SUCH", WindowLetters.NO_SUCH, -1);
        due.is("BAD_VALUE", WindowLetters.BAD_VALUE, -2);
        due.is("BAD_TEXT", WindowLetters.BAD_TEXT, -3);
        due.is("TOO_MANY", WindowLetters.TOO_MANY, -4);
        due.is("NOT_POSSIBLE", WindowLetters.NOT_POSSIBLE, -5);
        due.is("NONE", WindowLetters.NONE, -6);
    }

    private static String signature(Method method) {
        StringBuilder parameters = new StringBuilder();
        for (Class<?> type : method.getParameterTypes()) {
            parameters.append(parameters.length() == 0 ? "" : ",").append(type.getName());
        }
        return method.getName() + "(" + parameters + ")";
    }

    private static Class<?>[] classes() {
        Class<?>[] inside = WindowLetters.class.getDeclaredClasses();
        Class<?>[] all = Arrays.copyOf(inside, inside.length + 1);
        all[inside.length] = WindowLetters.class;
        return all;
    }

    private static void members(Due due) {
        due.is("classes are some twelve at most", classes().length <= 12 ? 1 : 0, 1);
        for (Field field : WindowLetters.class.getDeclaredFields()) {
            boolean constant = Arrays.asList(CONSTANTS).contains(field.getName());
            due.is(field + " is open", Modifier.isPrivate(field.getModifiers()) ? 0 : 1, constant ? 1 : 0);
        }
        for (Class<?> one : classes()) {
            if (one != WindowLetters.class) {
                due.is(one + " is static", Modifier.isStatic(one.getModifiers()) ? 1 : 0, 1);
                due.is(one + " is open", one.getModifiers() & (Modifier.PUBLIC | Modifier.PROTECTED), 0);
                due.is(one + " has classes inside", one.getDeclaredClasses().length, 0);
            }
            int fields = 0;
            for (Field field : one.getDeclaredFields()) {
                boolean isStatic = Modifier.isStatic(field.getModifiers());
                fields += isStatic ? 0 : 1;
                due.is(field + " is static and not final",
                    isStatic && !Modifier.isFinal(field.getModifiers()) ? 1 : 0, 0);
            }
            due.is(one + " has some twenty fields at most", fields <= 20 ? 1 : 0, 1);
            for (Method method : one.getDeclaredMethods()) {
                due.is(method + " takes seven parameters at most", method.getParameterCount() <= 7 ? 1 : 0, 1);
            }
        }
    }

    private static void words(Due due, String text) {
        String bare = text.replaceAll("(?s)/\\*.*?\\*/|//[^\n]*", "").replaceAll("\"[^\"\n]*\"", "TEXT");
        Matcher word = Pattern.compile(FORBIDDEN).matcher(bare);
        while (word.find()) {
            due.is("the word " + word.group() + " stands in the class", 1, 0);
        }
        for (int i = 0; i < text.length(); i++) {
            if (text.charAt(i) > 126) {
                due.is("the sign " + (int) text.charAt(i) + " stands in the class", 1, 0);
            }
        }
        due.is("one public class", bare.split("public final class").length - 1, 1);
    }

    /** A method begins at a line that ends with "{" and ends at the next one that is "}" as far to the right. */
    private static void sizes(Due due, String text) {
        String[] lines = text.split("\n");
        int methods = 0;
        for (int i = 0; i < lines.length; i++) {
            Matcher head = Pattern.compile("( {4}| {8})(?!.*\\bclass\\b)\\w.*\\) \\{").matcher(lines[i]);
            if (!head.matches()) {
                continue;
            }
            int end = i;
            while (end < lines.length && !lines[end].equals(head.group(1) + "}")) {
                end++;
            }
            methods++;
            due.is("the lines of " + lines[i].trim(), end - i + 1 <= 60 ? 1 : 0, 1);
        }
        due.is("methods are seen", methods > FACE.length ? 1 : 0, 1);
    }

    private static void objectsStandApart(Due due) {
        WindowLetters one = Due.fullShop();
        one.put('i');
        one.save(0);
        WindowLetters other = new WindowLetters();
        due.is("sheets", other.count(0), 0);
        due.is("pieces", other.count(1), 0);
        due.is("pad", other.count(8), 0);
        due.is("history", other.count(9), 0);
        due.is("slot", other.restore(0), -5);
    }
}
