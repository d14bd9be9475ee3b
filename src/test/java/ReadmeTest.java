import java.io.IOException;
import java.lang.reflect.InvocationTargetException;
import java.lang.reflect.Method;
import java.nio.file.Files;
import java.nio.file.Path;
import java.util.Set;
import java.util.TreeSet;
import java.util.regex.Matcher;
import java.util.regex.Pattern;

/** README.md tells the truth: each call of its example answers what stands behind it, and no call is left out. */
public final class ReadmeTest {
    private static final Pattern MAKING = Pattern.compile("RoomFills wall = new RoomFills\\((\\d+)\\); +//.*");
    private static final Pattern CALL = Pattern.compile("wall\\.(\\w+)\\((.*?)\\); +// ([^: ]+)(:.*)?");
    private static final Pattern TABLE_ROW = Pattern.compile("\\| `(\\w+)\\(.*");

    private static int wrong = 0;
    private static int done = 0;

    private static void due(String what, Object got, Object want) {
        done++;
        if (!got.equals(want)) {
            wrong++;
            System.out.println("README.md, " + what + ": got " + got + ", due is " + want);
        }
    }

    private static Method method(String name) {
        for (Method method : RoomFills.class.getDeclaredMethods()) {
            if (method.getName().equals(name)) {
                return method;
            }
        }
        throw new IllegalArgumentException("README.md calls " + name + ", which is not there");
    }

    private static Object argument(String text, Class<?> type) {
        if (type == boolean.class) {
            return Boolean.valueOf(text);
        }
        int sum = 0;
        for (String part : text.replace("RoomFills.NONE", "" + RoomFills.NONE).split(" (?=-)")) {
            sum += Integer.parseInt(part.replace(" ", ""));
        }
        if (type == long.class) {
            return (long) sum;
        }
        return sum;
    }

    private static Object[] arguments(String text, Class<?>[] types) {
        String[] parts = text.isEmpty() ? new String[0] : text.split(", ");
        Object[] list = new Object[parts.length];
        for (int k = 0; k < parts.length; k++) {
            list[k] = argument(parts[k], types[k]);
        }
        return list;
    }

    private static String answer(RoomFills wall, String name, String texts) throws IllegalAccessException {
        Method method = method(name);
        try {
            return String.valueOf(method.invoke(wall, arguments(texts, method.getParameterTypes())));
        } catch (InvocationTargetException thrown) {
            return thrown.getCause().getClass().getSimpleName();
        }
    }

    private static String example(String text) {
        String from = "```java\n";
        int begin = text.indexOf(from) + from.length();
        return text.substring(begin, text.indexOf("```", begin));
    }

    private static Set<String> runExample(String text) throws IllegalAccessException {
        Set<String> called = new TreeSet<>();
        RoomFills wall = null;
        for (String line : example(text).split("\n")) {
            Matcher making = MAKING.matcher(line);
            Matcher call = CALL.matcher(line);
            if (making.matches()) {
                wall = new RoomFills(Integer.parseInt(making.group(1)));
            } else if (call.matches()) {
                called.add(call.group(1));
                due(line, answer(wall, call.group(1), call.group(2)), call.group(3));
            } else {
                due(line + " (a line that is no call)", line, "");
            }
        }
        return called;
    }

    private static Set<String> tableRows(String text) {
        Set<String> names = new TreeSet<>();
        for (String line : text.split("\n")) {
            Matcher row = TABLE_ROW.matcher(line);
            if (row.matches()) {
                names.add(row.group(1));
            }
        }
        return names;
    }

    public static void main(String[] args) throws IOException, IllegalAccessException {
        String text = Files.readString(Path.of("README.md"));
        Set<String> face = new TreeSet<>();
        for (Method method : RoomFills.class.getMethods()) {
            if (method.getDeclaringClass() == RoomFills.class) {
                face.add(method.getName());
            }
        }
        due("the example's calls", runExample(text), face);
        due("the table's calls", tableRows(text), face);
        for (Path test : Files.newDirectoryStream(Path.of("src/test/java"), "*.java")) {
            String name = test.getFileName().toString().replace(".java", "");
            due(name + " is told", text.contains("- `" + name + "`:"), true);
        }
        System.out.println(wrong == 0 ? "README.md is as due: " + done + " answers" : wrong + " answers are not as due");
        if (wrong != 0) {
            System.exit(1);
        }
    }
}
