import java.lang.reflect.Constructor;
import java.lang.reflect.Field;
import java.lang.reflect.Method;
import java.lang.reflect.Modifier;
import java.util.Arrays;
import java.util.Set;
import java.util.TreeSet;

/** The face: just the constants, constructors and methods of the document, and nothing else that is not private. */
public final class FaceTest {
    private static final String[] METHODS = {
        "boolean door(int, int) IllegalArgumentException",
        "boolean pipe(int) IllegalArgumentException",
        "int item(int, long, long) IllegalStateException IllegalArgumentException",
        "boolean need(int, int) IndexOutOfBoundsException IllegalArgumentException",
        "boolean near(int, int, long) IndexOutOfBoundsException IllegalArgumentException",
        "boolean bar(int, int) IndexOutOfBoundsException IllegalArgumentException",
        "boolean must(int, boolean) IndexOutOfBoundsException",
        "boolean filler(int, int) IllegalArgumentException",
        "int run()",
        "int variant(int) IllegalStateException IllegalArgumentException",
        "int at(int) IllegalStateException IndexOutOfBoundsException",
        "int plan(int, int) IllegalStateException IndexOutOfBoundsException IllegalArgumentException",
        "long worth(int) IllegalStateException IndexOutOfBoundsException",
        "int top(int, int) IllegalStateException IndexOutOfBoundsException IllegalArgumentException",
        "boolean place(int, int) IndexOutOfBoundsException IllegalArgumentException",
        "int check()",
        "long row()",
    };

    private static int wrong = 0;

    private static void due(String what, Object got, Object want) {
        if (!got.equals(want)) {
            wrong++;
            System.out.println(what + ": got " + got + ", due is " + want);
        }
    }

    private static String types(Class<?>[] list, String between) {
        StringBuilder text = new StringBuilder();
        for (Class<?> type : list) {
            text.append(text.length() == 0 ? "" : between).append(type.getSimpleName());
        }
        return text.toString();
    }

    private static String told(Method method) {
        String thrown = types(method.getExceptionTypes(), " ");
        return method.getReturnType().getSimpleName() + " " + method.getName()
                + "(" + types(method.getParameterTypes(), ", ") + ")" + (thrown.isEmpty() ? "" : " " + thrown);
    }

    private static void methods() {
        Set<String> open = new TreeSet<>();
        Set<String> openNames = new TreeSet<>();
        for (Method method : RoomFills.class.getDeclaredMethods()) {
            if (!Modifier.isPrivate(method.getModifiers()) && !method.isSynthetic()) {
                open.add(told(method));
                openNames.add(method.getName());
                due(method.getName() + " is public and of the object", method.getModifiers(), Modifier.PUBLIC);
            }
        }
        due("the methods", open, new TreeSet<>(Arrays.asList(METHODS)));
        for (Method method : RoomFills.class.getDeclaredMethods()) {
            if (Modifier.isPrivate(method.getModifiers())) {
                due("private " + method.getName() + " bears a public name", openNames.contains(method.getName()), false);
            }
        }
    }

    private static void fields() throws IllegalAccessException {
        for (Field field : RoomFills.class.getDeclaredFields()) {
            int modifiers = field.getModifiers();
            if (field.getName().equals("NONE")) {
                due("NONE's modifiers", modifiers, Modifier.PUBLIC | Modifier.STATIC | Modifier.FINAL);
                due("NONE's type", field.getType(), int.class);
                due("NONE", field.getInt(null), -1);
            } else {
                due(field.getName() + " is private", Modifier.isPrivate(modifiers), true);
            }
            if (Modifier.isStatic(modifiers)) {
                due(field.getName() + " is final", Modifier.isFinal(modifiers), true);
            }
        }
    }

    public static void main(String[] args) throws IllegalAccessException {
        due("the class's modifiers", RoomFills.class.getModifiers(), Modifier.PUBLIC | Modifier.FINAL);
        Constructor<?>[] constructors = RoomFills.class.getDeclaredConstructors();
        due("how many constructors", constructors.length, 1);
        due("the constructor", types(constructors[0].getParameterTypes(), ", "), "int");
        due("the constructor's modifiers", constructors[0].getModifiers(), Modifier.PUBLIC);
        methods();
        fields();
        for (Class<?> inside : RoomFills.class.getDeclaredClasses()) {
            due(inside.getName() + " is static", Modifier.isStatic(inside.getModifiers()), true);
        }
        System.out.println(wrong == 0 ? "the face is as due" : wrong + " things of the face are not as due");
        if (wrong != 0) {
            System.exit(1);
        }
    }
}
