import java.io.IOException;
import java.lang.reflect.Constructor;
import java.lang.reflect.Field;
import java.lang.reflect.Method;
import java.lang.reflect.Modifier;
import java.nio.file.Files;
import java.nio.file.Path;
import java.util.Set;
import java.util.StringJoiner;
import java.util.TreeSet;
import java.util.regex.Matcher;
import java.util.regex.Pattern;

/** The public face is the one that the document writes out, and nothing beside it is open (rule 1 of LANGUAGE.md). */
public final class FaceTest {
    private static final String HEADING = "public final class RollBench {";

    public static void main(String[] args) throws IOException, IllegalAccessException {
        Due due = new Due();
        Set<String> written = written(Files.readString(Path.of(args[1])));
        due.is("how many members the document writes out", written.size(), 22);
        Set<String> open = open(due);
        due.holds("what is open is " + written + ", not " + open, open.equals(written));
        classes(due);
        noNameTwice(due);
        due.end();
    }

    /** The lines of the document's face, without the names of the parameters. */
    private static Set<String> written(String document) {
        Set<String> written = new TreeSet<>();
        Matcher face = Pattern.compile("```java\\R(.*?)```", Pattern.DOTALL).matcher(document);
        if (face.find() && face.group(1).startsWith(HEADING)) {
            for (String line : face.group(1).substring(HEADING.length()).split("[;}]")) {
                if (!line.isBlank()) {
                    written.add(line.trim().replaceAll("\\bint \\w+(?=[,)])", "int"));
                }
            }
        }
        return written;
    }

    private static Set<String> open(Due due) throws IllegalAccessException {
        Set<String> open = new TreeSet<>();
        for (Field field : RollBench.class.getDeclaredFields()) {
            if (!Modifier.isPrivate(field.getModifiers())) {
                String value = Modifier.isStatic(field.getModifiers()) ? " = " + field.get(null) : "";
                open.add(Modifier.toString(field.getModifiers()) + " " + field.getType() + " " + field.getName()
                    + value);
            }
        }
        for (Constructor<?> made : RollBench.class.getDeclaredConstructors()) {
            open.add(Modifier.toString(made.getModifiers()) + " RollBench" + types(made.getParameterTypes()));
            due.holds(made + " throws nothing", made.getExceptionTypes().length == 0);
        }
        for (Method method : RollBench.class.getDeclaredMethods()) {
            if (!Modifier.isPrivate(method.getModifiers())) {
                open.add(Modifier.toString(method.getModifiers()) + " " + method.getReturnType() + " "
                    + method.getName() + types(method.getParameterTypes()));
                due.holds(method + " throws nothing", method.getExceptionTypes().length == 0);
            }
        }
        return open;
    }

    private static String types(Class<?>... parameters) {
        StringJoiner types = new StringJoiner(", ", "(", ")");
        for (Class<?> parameter : parameters) {
            types.add(parameter.toString());
        }
        return types.toString();
    }

    private static void classes(Due due) {
        due.holds("RollBench is public and final",
            Modifier.toString(RollBench.class.getModifiers()).equals("public final"));
        due.holds("RollBench is no heir", RollBench.class.getSuperclass() == Object.class
            && RollBench.class.getInterfaces().length == 0);
        for (Class<?> inside : RollBench.class.getDeclaredClasses()) {
            int how = inside.getModifiers();
            due.holds(inside + " is static and not open",
                Modifier.isStatic(how) && !Modifier.isPublic(how) && !Modifier.isProtected(how));
        }
    }

    private static void noNameTwice(Due due) {
        Set<String> names = new TreeSet<>();
        for (Method method : RollBench.class.getDeclaredMethods()) {
            if (Modifier.isPublic(method.getModifiers())) {
                names.add(method.getName());
            }
        }
        for (Method method : RollBench.class.getDeclaredMethods()) {
            due.holds(method + " bears no public name",
                Modifier.isPublic(method.getModifiers()) || !names.contains(method.getName()));
        }
    }
}
