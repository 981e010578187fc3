import java.io.IOException;
import java.lang.reflect.Constructor;
import java.lang.reflect.Field;
import java.lang.reflect.Method;
import java.lang.reflect.Modifier;
import java.nio.file.Files;
import java.nio.file.Path;
import java.util.Arrays;
import java.util.Set;
import java.util.TreeSet;

/** The public face, and the rules of LANGUAGE.md that can be seen from outside or by a word. */
public final class FaceTest {
    private static final Set<String> METHODS = Set.of(
        "mount(int,int)", "strip(int)", "size(int)", "cell(int,int)", "put(int,int,int)",
        "change(int,int,int,int)", "rule(int,int,int)", "lay(int,int,int)", "at(int,int,int)",
        "head(int)", "play(int)", "count(int)");
    private static final Set<String> CONSTANTS = Set.of(
        "NO_LANE=-1000001", "NO_WAY=-1000002", "GREAT=-1000003", "NEGATIVE=-1000004", "OFF=-1000005",
        "OUT=-1000006", "NO_SHEET=-1000007", "NO_ROW=-1000008", "NO_COLUMN=-1000009");
    private static final String[] RULED_OUT = {
        "\\bpackage\\b", "\\bimport (?!java\\.util\\.(ArrayList|List|Arrays|Iterator|NoSuchElementException);)",
        "\\bfinally\\b", "\\bsynchronized\\b", "\\bassert\\b", "\\bgetMessage\\b", "\\bstatic\\s*\\{",
        "\\bSystem\\.(?!arraycopy\\b)", "\\bMath\\.random\\b", "\\b\\w+Exact\\b",
        // a method reference; an arrow that is no case of a switch
        "::", "(?m)^(?!.*\\b(case|default)\\b).*->",
        // what the machine throws, or a class above it
        "\\bThrowable\\b", "\\bcatch\\s*\\([^)]*\\b(ArrayIndexOutOfBounds|IndexOutOfBounds|NullPointer|Arithmetic"
            + "|ClassCast|NegativeArraySize|ArrayStore|Runtime)?Exception\\b"};

    public static void main(String[] args) throws IOException, IllegalAccessException {
        Due due = new Due();
        methods(due);
        constants(due);
        nested(due);
        words(due, Files.readString(Path.of(args[0])));
        due.end();
    }

    private static void methods(Due due) {
        due.holds("public and final", Modifier.isPublic(RollBench.class.getModifiers())
            && Modifier.isFinal(RollBench.class.getModifiers()));
        Set<String> open = new TreeSet<>();
        Set<String> names = new TreeSet<>();
        for (Method method : RollBench.class.getDeclaredMethods()) {
            if (Modifier.isPrivate(method.getModifiers())) {
                continue;
            }
            due.holds(method + " is public, answers int and throws nothing",
                Modifier.isPublic(method.getModifiers()) && !Modifier.isStatic(method.getModifiers())
                && method.getReturnType() == int.class && method.getExceptionTypes().length == 0);
            String types = Arrays.toString(method.getParameterTypes()).replaceAll("[\\[\\] ]", "");
            open.add(method.getName() + "(" + types + ")");
            names.add(method.getName());
        }
        due.holds("the methods are " + METHODS + ", not " + open, open.equals(METHODS));
        for (Method method : RollBench.class.getDeclaredMethods()) {
            due.holds(method + " bears no public name",
                !Modifier.isPrivate(method.getModifiers()) || !names.contains(method.getName()));
        }
        Constructor<?>[] constructors = RollBench.class.getDeclaredConstructors();
        due.holds("one public constructor without parameters", constructors.length == 1
            && Modifier.isPublic(constructors[0].getModifiers()) && constructors[0].getParameterCount() == 0);
    }

    private static void constants(Due due) throws IllegalAccessException {
        Set<String> open = new TreeSet<>();
        for (Field field : RollBench.class.getDeclaredFields()) {
            int how = field.getModifiers();
            due.holds(field + " is final if static", !Modifier.isStatic(how) || Modifier.isFinal(how));
            if (!Modifier.isPrivate(how)) {
                due.holds(field + " is a public constant of int",
                    Modifier.isPublic(how) && Modifier.isStatic(how) && field.getType() == int.class);
                open.add(field.getName() + "=" + field.getInt(null));
            }
        }
        due.holds("the constants are " + CONSTANTS + ", not " + open, open.equals(CONSTANTS));
    }

    private static void nested(Due due) {
        for (Class<?> inside : RollBench.class.getDeclaredClasses()) {
            int how = inside.getModifiers();
            due.holds(inside + " is static and not open",
                Modifier.isStatic(how) && !Modifier.isPublic(how) && !Modifier.isProtected(how));
            for (Field field : inside.getDeclaredFields()) {
                due.holds(field + " is final if static",
                    !Modifier.isStatic(field.getModifiers()) || Modifier.isFinal(field.getModifiers()));
            }
        }
    }

    private static void words(Due due, String source) {
        String code = source.replaceAll("(?s)/\\*.*?\\*/", " ").replaceAll("//[^\\n]*", " ");
        for (String word : RULED_OUT) {
            due.is("how often the code has " + word, code.split(word, -1).length - 1, 0);
        }
    }
}
