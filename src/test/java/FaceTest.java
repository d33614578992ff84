import java.lang.reflect.Field;
import java.lang.reflect.Method;
import java.lang.reflect.Modifier;
import java.util.Arrays;
import java.util.Set;
import java.util.TreeSet;
import java.util.stream.Collectors;

/** The public face, and what LANGUAGE.md says of members (rules 1, 2, 5 and 11). */
public final class FaceTest {
    private static final Due due = new Due();

    public static void main(String[] args) {
        due.is("NONE", CuttingRoom.NONE, -1);
        due.yes("the class is final", Modifier.isFinal(CuttingRoom.class.getModifiers()));
        due.is("public constructors", CuttingRoom.class.getConstructors().length, 1);
        due.is("constructors", CuttingRoom.class.getDeclaredConstructors().length, 1);
        due.is("what the constructor takes", CuttingRoom.class.getConstructors()[0].getParameterCount(), 0);
        methodsOfTheFace();
        fieldsOfTheFace();
        classesInside();
        due.end();
    }

    private static void methodsOfTheFace() {
        Set<String> open = new TreeSet<>();
        for (Method method : CuttingRoom.class.getDeclaredMethods()) {
            if (Modifier.isPublic(method.getModifiers())) {
                open.add(head(method));
            } else {
                due.yes(method.getName() + " is private", Modifier.isPrivate(method.getModifiers()));
            }
        }
        due.is("public methods", String.join("\n", open), String.join("\n",
                "boolean blade(int, int, int)",
                "boolean cross(int, int, int, int, int)",
                "boolean extract(int, int, int)",
                "boolean insert(int, int, int)",
                "boolean lift(int, int, int, int)",
                "boolean overwrite(int, int, int)",
                "boolean paint(int, int, int, int, int)",
                "boolean redo()",
                "boolean style(int, int, int, int, int)",
                "boolean trim(int, int, int, int, int)",
                "boolean undo()",
                "int about(int, int) throws IndexOutOfBoundsException",
                "int clip(int) throws IllegalArgumentException, IllegalStateException",
                "int count(int)",
                "int event(int, int, int, int) throws IndexOutOfBoundsException",
                "int pixel(int, int, int) throws IndexOutOfBoundsException",
                "int sequence() throws IllegalStateException",
                "void pick(int, int, int, int, int) throws IllegalArgumentException"));
    }

    /** A method as the document writes it, without the names of what it takes. */
    private static String head(Method method) {
        String thrown = names(method.getExceptionTypes());
        String kind = Modifier.isStatic(method.getModifiers()) ? "static " : "";
        return kind + method.getReturnType().getSimpleName() + " " + method.getName()
                + "(" + names(method.getParameterTypes()) + ")" + (thrown.isEmpty() ? "" : " throws " + thrown);
    }

    private static String names(Class<?>[] classes) {
        return Arrays.stream(classes).map(Class::getSimpleName).collect(Collectors.joining(", "));
    }

    private static void fieldsOfTheFace() {
        for (Field field : CuttingRoom.class.getDeclaredFields()) {
            boolean isFace = field.getName().equals("NONE");
            due.yes(field.getName() + " is as open as the face has it",
                    isFace ? Modifier.isPublic(field.getModifiers()) : Modifier.isPrivate(field.getModifiers()));
            finalIfStatic(field);
        }
    }

    private static void classesInside() {
        due.yes("at most twelve classes", CuttingRoom.class.getDeclaredClasses().length < 12);
        for (Class<?> inside : CuttingRoom.class.getDeclaredClasses()) {
            due.yes(inside.getName() + " is static", Modifier.isStatic(inside.getModifiers()));
            due.no(inside.getName() + " is public", Modifier.isPublic(inside.getModifiers()));
            for (Field field : inside.getDeclaredFields()) {
                finalIfStatic(field);
            }
        }
    }

    private static void finalIfStatic(Field field) {
        if (Modifier.isStatic(field.getModifiers())) {
            due.yes(field.getName() + " is final", Modifier.isFinal(field.getModifiers()));
        }
    }
}
