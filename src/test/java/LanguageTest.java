import java.io.DataInputStream;
import java.io.IOException;
import java.lang.reflect.Constructor;
import java.lang.reflect.Field;
import java.lang.reflect.Method;
import java.lang.reflect.Modifier;
import java.nio.file.Files;
import java.nio.file.Path;
import java.util.ArrayList;
import java.util.Arrays;
import java.util.List;
import java.util.Set;
import java.util.TreeSet;
import java.util.regex.Matcher;
import java.util.regex.Pattern;

/**
 * What can be seen of the rules of LANGUAGE.md in the source and the classes. It is stricter than
 * they are where the program needs less: it uses no library but its three exceptions.
 */
public final class LanguageTest {
    private static final Path SOURCE = Path.of("src/main/java/ClockTree.java");
    private static final Set<String> LIBRARY = Set.of("java/lang/Object",
            "java/lang/IllegalArgumentException", "java/lang/IllegalStateException", "java/lang/ArithmeticException");
    private static final Set<Class<?>> CONSTANTS = Set.of(int.class, long.class, boolean.class, char.class, String.class);
    private static final String[] WORDS_LEFT_OUT = {"package", "import", "try", "catch", "finally", "synchronized",
        "assert", "native", "volatile", "transient", "strictfp", "protected", "double", "float"};
    private static int wrong = 0;
    private static int checked = 0;

    private static void due(String what, Object got, Object want) {
        checked++;
        if (!got.equals(want)) {
            wrong++;
            System.out.println(what + " is " + got + ", due is " + want);
        }
    }

    private static void atMost(String what, int got, int most) {
        checked++;
        if (got > most) {
            wrong++;
            System.out.println(what + " is " + got + ", at most " + most + " is due");
        }
    }

    public static void main(String[] args) throws IOException {
        String source = withoutTextsAndComments(Files.readString(SOURCE));
        words(source);
        throwsOf(source);
        lengths(source);
        List<Class<?>> classes = new ArrayList<>(Arrays.asList(ClockTree.class.getDeclaredClasses()));
        for (Class<?> inside : classes) {
            due("whether " + inside.getName() + " is static", Modifier.isStatic(inside.getModifiers()), true);
            due("whether " + inside.getName() + " is public", Modifier.isPublic(inside.getModifiers()), false);
        }
        classes.add(ClockTree.class);
        atMost("the number of classes", classes.size(), 12);
        for (Class<?> one : classes) {
            fields(one);
            methods(one);
            library(one);
        }
        System.out.println(checked + " checks, " + wrong + " wrong");
        if (wrong != 0) {
            System.exit(1);
        }
    }

    private static String withoutTextsAndComments(String source) {
        return source.replaceAll("\"[^\"\n]*\"", "\"\"").replaceAll("//[^\n]*", "").replaceAll("(?s)/\\*.*?\\*/", "");
    }

    private static void words(String source) {
        for (String word : WORDS_LEFT_OUT) {
            due("whether there is " + word, Pattern.compile("\\b" + word + "\\b").matcher(source).find(), false);
        }
        due("whether there is a lambda", source.contains("->"), false);
        due("whether there is a reference to a method", source.contains("::"), false);
        due("whether there is a static block", Pattern.compile("\\bstatic\\s*\\{").matcher(source).find(), false);
        due("whether each character is plain", source.chars().allMatch(c -> c < 128), true);
    }

    /** Rule 6: an exception is made where it is thrown, with a written text. */
    private static void throwsOf(String source) {
        Matcher all = Pattern.compile("\\bthrow\\b").matcher(source);
        Matcher written = Pattern.compile("\\bthrow new (IllegalArgument|IllegalState|Arithmetic)Exception\\(\"\"\\);").matcher(source);
        due("the number of throws", (int) all.results().count(), (int) written.results().count());
    }

    /** Rule 11: a method, by the file's layout, ends with the brace that stands as far in as its first line. */
    private static void lengths(String source) {
        String[] lines = source.split("\n");
        Pattern heading = Pattern.compile("( {4}| {8})\\S.*\\).*");
        for (int i = 0; i < lines.length; i++) {
            Matcher method = heading.matcher(lines[i]);
            if (method.matches() && !lines[i].contains(";") && !lines[i].contains(" if (")) {
                int end = i;
                while (end < lines.length && !lines[end].equals(method.group(1) + "}")) {
                    end++;
                }
                atMost("the length of " + lines[i].trim(), end - i + 1, 60);
            }
        }
    }

    private static void fields(Class<?> one) {
        int own = 0;
        for (Field field : one.getDeclaredFields()) {
            if (Modifier.isStatic(field.getModifiers())) {
                due("whether " + field + " is final", Modifier.isFinal(field.getModifiers()), true);
                due("whether " + field + " is a constant", CONSTANTS.contains(field.getType()), true);
            } else {
                own++;
                Class<?> type = field.getType().isArray() ? field.getType().getComponentType() : field.getType();
                due("whether " + field + " is of an own or a plain type", type.isPrimitive() || isOwn(type.getName()), true);
            }
        }
        atMost("the number of fields of " + one.getName(), own, 20);
    }

    private static void methods(Class<?> one) {
        Set<String> face = new TreeSet<>();
        for (Method method : ClockTree.class.getMethods()) {
            face.add(method.getName());
        }
        for (Method method : one.getDeclaredMethods()) {
            atMost("the number of parameters of " + method, method.getParameterCount(), 7);
            boolean isOfFace = one == ClockTree.class && Modifier.isPublic(method.getModifiers());
            due("whether " + method + " bears a name of the face", !isOfFace && face.contains(method.getName()), false);
        }
        for (Constructor<?> constructor : one.getDeclaredConstructors()) {
            atMost("the number of parameters of " + constructor, constructor.getParameterCount(), 7);
        }
    }

    private static boolean isOwn(String name) {
        return name.equals("ClockTree") || name.startsWith("ClockTree$");
    }

    /** The classes that the constant pool of a class names; what lambdas and joined texts need is not among its tags. */
    private static void library(Class<?> one) throws IOException {
        try (DataInputStream in = new DataInputStream(ClockTree.class.getResourceAsStream(one.getName() + ".class"))) {
            in.skipBytes(8);
            int size = in.readUnsignedShort();
            String[] texts = new String[size];
            int[] names = new int[size];
            for (int i = 1; i < size; i++) {
                int tag = in.readUnsignedByte();
                switch (tag) {
                    case 1 -> texts[i] = in.readUTF();
                    case 7 -> names[i] = in.readUnsignedShort();
                    case 8 -> in.readUnsignedShort();
                    case 3, 9, 10, 12 -> in.readInt();
                    case 5 -> {
                        in.readLong();
                        i++;
                    }
                    default -> {
                        due("a tag in the constant pool of " + one.getName(), tag, 7);
                        return;
                    }
                }
            }
            for (int name : names) {
                String text = name == 0 ? "ClockTree" : texts[name];
                boolean isKnown = LIBRARY.contains(text) || isOwn(text.replaceAll("^\\[L(.*);$", "$1"));
                due("whether " + one.getName() + " may use " + text, isKnown, true);
            }
        }
    }
}
