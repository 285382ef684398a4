import java.io.IOException;
import java.lang.reflect.InvocationTargetException;
import java.lang.reflect.Method;
import java.lang.reflect.Modifier;
import java.nio.file.Files;
import java.nio.file.Path;
import java.util.Set;
import java.util.TreeSet;
import java.util.regex.Matcher;
import java.util.regex.Pattern;

/** That README.md tells the truth: each call of its example answers what is written behind it, and none of the face is left out. */
final class ReadmeTest {
    private static final Path README = Path.of("README.md");
    private static final String NEW_OBJECT = "Scriptorium house = new Scriptorium();";
    private static final Pattern CALL =
        Pattern.compile("house\\.(\\w+)\\(([^)]*)\\);\\s*// (-?\\d+|throws \\w+): \\S.*");

    private static Scriptorium house;
    private static final Set<String> CALLED = new TreeSet<>();
    private static int wrong;

    public static void main(String[] args) throws IOException {
        boolean inExample = false;
        for (String line : Files.readAllLines(README)) {
            if (line.startsWith("```")) {
                inExample = line.equals("```java");
            } else if (inExample && !line.isEmpty() && !line.startsWith("//")) {
                follow(line);
            }
        }
        Set<String> face = new TreeSet<>();
        for (Method m : Scriptorium.class.getDeclaredMethods()) {
            if (Modifier.isPublic(m.getModifiers())) {
                face.add(m.getName());
            }
        }
        if (!CALLED.equals(face)) {
            fault("the example calls " + CALLED + ", the face is " + face);
        }
        if (wrong != 0) {
            System.exit(1);
        }
    }

    private static void fault(String text) {
        wrong++;
        System.out.println(README + ": " + text);
    }

    private static void follow(String line) {
        Matcher call = CALL.matcher(line);
        if (line.equals(NEW_OBJECT)) {
            house = new Scriptorium();
        } else if (house == null || !call.matches()) {
            fault("is no call with an answer: " + line);
        } else {
            CALLED.add(call.group(1));
            String got = answer(call.group(1), call.group(2));
            if (!got.equals(call.group(3))) {
                fault("the answer is " + got + ": " + line);
            }
        }
    }

    private static String answer(String name, String arguments) {
        String[] texts = arguments.isEmpty() ? new String[0] : arguments.split(", ");
        for (Method m : Scriptorium.class.getMethods()) {
            if (m.getName().equals(name) && m.getParameterCount() == texts.length) {
                return answer(m, texts);
            }
        }
        return "none, there is no such method";
    }

    private static String answer(Method m, String[] texts) {
        Object[] values = new Object[texts.length];
        for (int k = 0; k < texts.length; k++) {
            boolean isLong = m.getParameterTypes()[k] == long.class;
            values[k] = isLong ? (Object) Long.valueOf(texts[k].replace("L", "")) : Integer.valueOf(texts[k]);
        }
        try {
            return m.invoke(house, values).toString();
        } catch (InvocationTargetException e) {
            return "throws " + e.getCause().getClass().getSimpleName();
        } catch (IllegalAccessException e) {
            return "none, it is not public";
        }
    }
}
