import java.lang.reflect.Constructor;
import java.lang.reflect.Field;
import java.lang.reflect.Method;
import java.lang.reflect.Modifier;
import java.util.Arrays;
import java.util.Set;
import java.util.TreeSet;

/** The class shows the document's face and nothing else. */
public final class FaceTest {
    private static final String[] FACE = {
        "int node(int, int, int, int, long) IllegalArgumentException IllegalStateException",
        "int link(int, int, int, int, int, int) IllegalArgumentException IllegalStateException",
        "void up(int, boolean) IllegalArgumentException",
        "void priority(int, int) IllegalArgumentException",
        "int round(int) IllegalArgumentException",
        "int settle()",
        "int state(int, int) IllegalArgumentException",
        "int root(int) IllegalArgumentException",
        "int steps(int) IllegalArgumentException",
        "int kept(int, int) IllegalArgumentException",
        "long exchange(int, long, int, int) IllegalArgumentException IllegalStateException ArithmeticException",
        "long delay(int) IllegalArgumentException",
        "long offset(int) IllegalArgumentException",
        "int discipline(long)",
    };
    private static int wrong = 0;

    private static void due(String what, Object got, Object want) {
        if (!got.equals(want)) {
            wrong++;
            System.out.println(what + " is " + got + ", due is " + want);
        }
    }

    private static String headingOf(Method method) {
        StringBuilder text = new StringBuilder(method.getReturnType().getSimpleName());
        text.append(' ').append(method.getName()).append('(');
        String comma = "";
        for (Class<?> type : method.getParameterTypes()) {
            text.append(comma).append(type.getSimpleName());
            comma = ", ";
        }
        text.append(')');
        for (Class<?> type : method.getExceptionTypes()) {
            text.append(' ').append(type.getSimpleName());
        }
        return text.toString();
    }

    public static void main(String[] args) {
        Class<?> face = ClockTree.class;
        due("the class's modifiers", Modifier.toString(face.getModifiers()), "public final");
        Constructor<?>[] constructors = face.getDeclaredConstructors();
        due("the number of constructors", constructors.length, 1);
        due("the constructor's modifiers", Modifier.toString(constructors[0].getModifiers()), "public");
        due("the constructor's parameters", constructors[0].getParameterCount(), 0);

        Set<String> found = new TreeSet<>();
        Set<String> names = new TreeSet<>();
        for (Method method : face.getDeclaredMethods()) {
            if (!Modifier.isPrivate(method.getModifiers())) {
                due("the modifiers of " + method.getName(), Modifier.toString(method.getModifiers()), "public");
                found.add(headingOf(method));
                names.add(method.getName());
            }
        }
        due("the methods", found, new TreeSet<>(Arrays.asList(FACE)));
        for (Method method : face.getDeclaredMethods()) {
            if (Modifier.isPrivate(method.getModifiers())) {
                due("a private method bears a public name, " + method.getName(), names.contains(method.getName()), false);
            }
        }
        for (Field field : face.getDeclaredFields()) {
            due("field " + field.getName() + " is private", Modifier.isPrivate(field.getModifiers()), true);
        }
        System.out.println(wrong == 0 ? "the face is the document's" : wrong + " wrong");
        if (wrong != 0) {
            System.exit(1);
        }
    }
}
