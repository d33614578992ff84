import java.io.IOException;
import java.lang.reflect.InvocationTargetException;
import java.lang.reflect.Method;
import java.lang.reflect.Modifier;
import java.nio.file.Files;
import java.nio.file.Path;
import java.util.HashMap;
import java.util.HashSet;
import java.util.Map;
import java.util.Set;
import java.util.regex.Matcher;
import java.util.regex.Pattern;

/**
 * The calls that README.md shows, in its blocks of Java, are made on one room: each must answer what stands behind
 * it, and every call of the face must be shown.
 */
public final class ReadmeTest {
    private static final String FIRST_ROW = "CuttingRoom room = new CuttingRoom();";
    private static final Pattern ROW = Pattern.compile(
            "(?:int (\\w+) = )?room\\.(\\w+)\\(([^)]*)\\); +// (\\w+)(?:: .+)?");

    private static final Due due = new Due();
    private static final CuttingRoom room = new CuttingRoom();
    private static final Map<String, Integer> names = new HashMap<>(Map.of("CuttingRoom.NONE", CuttingRoom.NONE));
    private static final Set<String> shown = new HashSet<>();

    public static void main(String[] args) throws IOException, IllegalAccessException {
        boolean isJava = false;
        for (String line : Files.readAllLines(Path.of("README.md"))) {
            if (line.startsWith("```")) {
                isJava = line.equals("```java");
            } else if (isJava && !line.equals(FIRST_ROW)) {
                row(line);
            }
        }
        for (Method method : CuttingRoom.class.getDeclaredMethods()) {
            boolean isFace = Modifier.isPublic(method.getModifiers());
            due.yes("README.md shows " + method.getName(), !isFace || shown.contains(method.getName()));
        }
        due.end();
    }

    private static void row(String line) throws IllegalAccessException {
        Matcher parts = ROW.matcher(line);
        if (!parts.matches()) {
            due.is("README.md's row " + line, "no call with its answer", "one");
            return;
        }
        String got = answer(parts.group(2), numbers(parts.group(3)));
        due.is("README.md's row " + line, got, plain(parts.group(4)));
        if (parts.group(1) != null) {
            names.put(parts.group(1), Integer.decode(got));
        }
        shown.add(parts.group(2));
    }

    private static Object[] numbers(String words) {
        if (words.isEmpty()) {
            return new Object[0];
        }
        String[] word = words.split(", ");
        Object[] numbers = new Object[word.length];
        for (int i = 0; i < word.length; i++) {
            numbers[i] = names.containsKey(word[i]) ? names.get(word[i]) : Integer.decode(word[i]);
        }
        return numbers;
    }

    private static String answer(String name, Object[] numbers) throws IllegalAccessException {
        for (Method method : CuttingRoom.class.getMethods()) {
            if (method.getName().equals(name) && method.getParameterCount() == numbers.length) {
                try {
                    Object got = method.invoke(room, numbers);
                    return got == null ? "nothing" : got.toString();
                } catch (InvocationTargetException e) {
                    return e.getCause().getClass().getSimpleName();
                }
            }
        }
        return "no such call";
    }

    /** Answers are compared as decimal numbers, but colours are shown as hexadecimal ones. */
    private static String plain(String answer) {
        return answer.matches("0x.+") ? Integer.decode(answer).toString() : answer;
    }
}
