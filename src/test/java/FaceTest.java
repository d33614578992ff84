import java.lang.reflect.Field;
import java.lang.reflect.Method;
import java.lang.reflect.Modifier;
import java.util.Set;
import java.util.TreeSet;

/** The public face, and what LANGUAGE.md says of members (rules 1, 2, 5 and 11). */
public final class FaceTest {
    private static final Due due = new Due();

    public static void main(String[] args) {
        due.is("NONE", CuttingRoom.NONE, -1);
        due.yes("the class is final", Modifier.isFinal(CuttingRoom.class.getModifiers()));
        due.is("constructors", CuttingRoom.class.getConstructors().length, 1);
        methodsOfTheFace();
        fieldsOfTheFace();
        classesInside();
        due.end();
    }

    private static void methodsOfTheFace() {
        Set<String> open = new TreeSet<>();
        for (Method method : CuttingRoom.class.getDeclaredMethods()) {
            if (Modifier.isPublic(method.getModifiers())) {
                open.add(method.getName() + "/" + method.getParameterCount() + "/" + method.getReturnType());
            } else {
                due.yes(method.getName() + " is private", Modifier.isPrivate(method.getModifiers()));
            }
        }
        due.is("public methods", String.join(" ", open),
                "about/2/int blade/3/boolean clip/1/int count/1/int cross/5/boolean event/4/int "
                + "extract/3/boolean insert/3/boolean lift/4/boolean overwrite/3/boolean paint/5/boolean "
                + "pick/5/void pixel/3/int redo/0/boolean sequence/0/int style/5/boolean trim/5/boolean "
                + "undo/0/boolean");
    }

    private static void fieldsOfTheFace() {
        for (Field field : CuttingRoom.class.getDeclaredFields()) {
            boolean isFace = field.getName().equals("NONE");
            due.yes(field.getName() + " is as open as the face has it",
                    isFace ? Modifier.isPublic(field.getModifiers()) : Modifier.isPrivate(field.getModifiers()));
            finalIfStatic(field);
        }
    }

    private static void classesInside() {
        due.yes("at most twelve classes", CuttingRoom.class.getDeclaredClasses().length < 12);
        for (Class<?> inside : CuttingRoom.class.getDeclaredClasses()) {
            due.yes(inside.getName() + " is static", Modifier.isStatic(inside.getModifiers()));
            due.no(inside.getName() + " is public", Modifier.isPublic(inside.getModifiers()));
            for (Field field : inside.getDeclaredFields()) {
                finalIfStatic(field);
            }
        }
    }

    private static void finalIfStatic(Field field) {
        if (Modifier.isStatic(field.getModifiers())) {
            due.yes(field.getName() + " is final", Modifier.isFinal(field.getModifiers()));
        }
    }
}
