import java.io.IOException;
import java.lang.reflect.Constructor;
import java.lang.reflect.Field;
import java.lang.reflect.Method;
import java.lang.reflect.Modifier;
import java.nio.file.Files;
import java.nio.file.Path;
import java.util.Arrays;
import java.util.Set;
import java.util.TreeSet;
import java.util.regex.Matcher;
import java.util.regex.Pattern;

/** 'The public face' and rule 1 of LANGUAGE.md: the document's members, and no other that is seen from outside. */
final class FaceTest {
    private static final Set<String> FACE = new TreeSet<>(Arrays.asList(
        "int bind(int, int, int)", "int stone(int)", "int share(int, int)", "int clear(int)",
        "int write(int, int, int, long)", "int copy(int, int, int, int, int, int)",
        "int order(int, int, int, int, int, int)", "int day()", "int fill(int, int)",
        "int scribe(int, int)",
        "long sign(int, int) throws IllegalStateException IndexOutOfBoundsException",
        "int book(int, int)", "int differ(int, int)", "int chronicle(int, int)", "int count(int)"));

    private static final Path DOCUMENT = Path.of("..", "shared", "DOC.md");
    private static final String HEAD = "(\\w+ \\w+\\([^)]*\\)(?: throws [\\w, ]+)?)";
    private static final Pattern IN_THE_FACE = Pattern.compile("    public " + HEAD + ";");
    private static final Pattern AT_A_PROMISE = Pattern.compile("`" + HEAD + "`:.*");

    private static int wrong;

    public static void main(String[] args) throws IOException {
        Class<?> c = Scriptorium.class;
        if (Files.exists(DOCUMENT)) {
            check(headsIn(IN_THE_FACE).equals(FACE), "'The public face' has these methods: " + FACE);
            check(headsIn(AT_A_PROMISE).equals(FACE), "the promises are headed by these methods: " + FACE);
        } else {
            System.out.println("no " + DOCUMENT + " here: the face is not held against it");
        }
        check(Modifier.isPublic(c.getModifiers()) && Modifier.isFinal(c.getModifiers()), "public and final");
        methods(c);
        constructors(c);
        fields(c);
        classesInside(c);
        if (wrong != 0) {
            System.exit(1);
        }
    }

    private static void check(boolean holds, String what) {
        if (!holds) {
            wrong++;
            System.out.println("does not hold: " + what);
        }
    }

    /** The methods' heads as the document tells them, without the names of the parameters. */
    private static Set<String> headsIn(Pattern where) throws IOException {
        Set<String> heads = new TreeSet<>();
        for (String line : Files.readAllLines(DOCUMENT)) {
            Matcher found = where.matcher(line);
            if (found.matches()) {
                String head = found.group(1).replaceAll("([(,] ?)(int|long) \\w+", "$1$2");
                heads.add(head.replace("Exception, ", "Exception "));
            }
        }
        return heads;
    }

    private static void methods(Class<?> c) {
        Set<String> found = new TreeSet<>();
        Set<String> names = new TreeSet<>();
        for (Method m : c.getDeclaredMethods()) {
            if (Modifier.isPublic(m.getModifiers())) {
                found.add(headOf(m));
                names.add(m.getName());
            }
        }
        check(found.equals(FACE), "the methods are the document's: " + found);
        for (Method m : c.getDeclaredMethods()) {
            int how = m.getModifiers();
            check(Modifier.isPublic(how) || Modifier.isPrivate(how), m.getName() + " is public or private");
            check(!Modifier.isPrivate(how) || !names.contains(m.getName()), m.getName() + " is no public name");
        }
    }

    private static String headOf(Method m) {
        StringBuilder head = new StringBuilder();
        head.append(m.getReturnType().getSimpleName()).append(' ').append(m.getName()).append('(');
        String between = "";
        for (Class<?> p : m.getParameterTypes()) {
            head.append(between).append(p.getSimpleName());
            between = ", ";
        }
        head.append(')');
        between = " throws ";
        for (Class<?> e : m.getExceptionTypes()) {
            head.append(between).append(e.getSimpleName());
            between = " ";
        }
        return head.toString();
    }

    private static void constructors(Class<?> c) {
        Constructor<?>[] all = c.getDeclaredConstructors();
        check(all.length == 1 && Modifier.isPublic(all[0].getModifiers()), "one public constructor");
        check(all[0].getParameterCount() == 0, "a constructor without parameters");
    }

    private static void fields(Class<?> c) {
        for (Field f : c.getDeclaredFields()) {
            int how = f.getModifiers();
            check(Modifier.isPrivate(how), f.getName() + " is private");
            check(!Modifier.isStatic(how) || Modifier.isFinal(how), f.getName() + " is final if it is static");
        }
    }

    private static void classesInside(Class<?> c) {
        for (Class<?> inside : c.getDeclaredClasses()) {
            int how = inside.getModifiers();
            check(Modifier.isStatic(how), inside.getName() + " is static");
            check(!Modifier.isPublic(how) && !Modifier.isProtected(how), inside.getName() + " is not seen");
        }
    }
}
