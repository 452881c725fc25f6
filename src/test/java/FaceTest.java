import java.lang.reflect.Constructor;
import java.lang.reflect.Field;
import java.lang.reflect.Method;
import java.lang.reflect.Modifier;
import java.nio.file.Files;
import java.nio.file.Path;
import java.util.ArrayList;
import java.util.List;
import java.util.Set;
import java.util.TreeSet;
import java.util.regex.Pattern;

/**
 * The public face as the document tells it, and those rules of ../shared/LANGUAGE.md that can be
 * seen in the class or in the words of its file, which is the argument.
 */
public final class FaceTest {
    private static final String OUT = "IndexOutOfBoundsException";
    private static final String ARGUMENT = "IllegalArgumentException";
    private static final String STATE = "IllegalStateException";

    public static void main(String[] args) throws Exception {
        Check.holds("the class is public and final",
                Modifier.isPublic(SalesDesk.class.getModifiers())
                        && Modifier.isFinal(SalesDesk.class.getModifiers()));
        Check.holds("the class has no package", SalesDesk.class.getPackageName().isEmpty());
        methods();
        constructors();
        hidden();
        if (args.length > 0) {
            words(Files.readString(Path.of(args[0])));
        }
        Check.end();
    }

    private static List<String> face() {
        List<String> face = new ArrayList<>();
        face.add(line("int pass", 1, ARGUMENT, STATE));
        face.add(line("int addAccount", 3, OUT, ARGUMENT, STATE));
        face.add(line("int putRule", 5, OUT, ARGUMENT, STATE));
        face.add(line("int removeRule", 1, OUT));
        face.add(line("int except", 2, OUT, ARGUMENT));
        face.add(line("int regionOf", 1, OUT));
        face.add(line("int addSeller", 2, OUT, ARGUMENT, STATE));
        face.add(line("int adjust", 2, OUT, ARGUMENT));
        face.add(line("int addChance", 3, OUT, ARGUMENT, STATE));
        face.add(line("int giveShare", 4, OUT, ARGUMENT, STATE));
        face.add(line("int move", 2, OUT, ARGUMENT, STATE));
        face.add(line("int stage", 1, OUT));
        face.add(line("int daysIn", 2, OUT, ARGUMENT));
        face.add(line("int stalled", 1, ARGUMENT));
        face.add(line("int worth", 1, OUT));
        face.add(line("int inRegion", 2, ARGUMENT));
        face.add(line("int won", 1, OUT));
        face.add(line("int quote", 3, OUT, ARGUMENT, STATE));
        face.add(line("void approve", 2, OUT, STATE));
        face.add(line("int counting", 1, OUT, "NoSuchElementException"));
        face.add(line("int waiting", 0));
        face.add(line("int forecast", 1, OUT));
        face.add(line("int own", 1, OUT));
        face.add(line("int freeze", 0, STATE));
        face.add(line("int since", 2, OUT));
        return face;
    }

    private static String line(String start, int parameters, String... thrown) {
        return start + " of " + parameters + " throws " + List.of(thrown);
    }

    private static String line(Method method) {
        List<String> thrown = new ArrayList<>();
        for (Class<?> kind : method.getExceptionTypes()) {
            thrown.add(kind.getSimpleName());
        }
        return method.getReturnType() + " " + method.getName() + " of "
                + method.getParameterCount() + " throws " + thrown;
    }

    private static void methods() {
        Set<String> due = new TreeSet<>(face());
        Set<String> are = new TreeSet<>();
        Set<String> names = new TreeSet<>();
        for (Method method : SalesDesk.class.getDeclaredMethods()) {
            if (!Modifier.isPrivate(method.getModifiers()) && !method.isSynthetic()) {
                are.add(line(method));
                names.add(method.getName());
                Check.holds(method + " is public and of the object",
                        method.getModifiers() == Modifier.PUBLIC);
            }
        }
        Check.holds("the methods are " + are + ", due are " + due, are.equals(due));
        for (Method method : SalesDesk.class.getDeclaredMethods()) {
            if (Modifier.isPrivate(method.getModifiers())) {
                Check.holds("a private method bears the public name " + method.getName(),
                        !names.contains(method.getName()));
                Check.holds(method + " takes at most seven parameters",
                        method.getParameterCount() <= 7);
            }
        }
    }

    private static void constructors() {
        Constructor<?>[] constructors = SalesDesk.class.getDeclaredConstructors();
        Check.due("the number of constructors", 1, constructors.length);
        Check.holds("the constructor is public and takes nothing",
                Modifier.isPublic(constructors[0].getModifiers())
                        && constructors[0].getParameterCount() == 0);
    }

    private static void hidden() {
        int ofTheObject = 0;
        for (Field field : SalesDesk.class.getDeclaredFields()) {
            int modifiers = field.getModifiers();
            Check.holds(field + " is private", Modifier.isPrivate(modifiers));
            if (Modifier.isStatic(modifiers)) {
                Check.holds(field + " is final", Modifier.isFinal(modifiers));
            } else {
                ofTheObject++;
            }
        }
        Check.holds("at most twenty fields", ofTheObject <= 20);
        Class<?>[] inside = SalesDesk.class.getDeclaredClasses();
        Check.holds("at most twelve classes", inside.length < 12);
        for (Class<?> kind : inside) {
            Check.holds(kind + " is private or package-visible",
                    !Modifier.isPublic(kind.getModifiers())
                            && !Modifier.isProtected(kind.getModifiers()));
        }
    }

    /** Only what the language rules out wherever it stands; comments and texts do not count. */
    private static void words(String file) {
        String code = file.replaceAll("(?s)/\\*.*?\\*/", " ").replaceAll("//[^\n]*", " ")
                .replaceAll("\"[^\"\n]*\"", "TEXT");
        String[] ruledOut = {"::", "\\bfinally\\b", "\\bsynchronized\\b", "\\bassert\\b",
            "\\bstatic\\s*\\{", "\\bpackage\\b", "\\bSystem\\.(?!arraycopy\\b)", "\\bThread\\b",
            "\\bRandom\\b", "\\brandom\\b", "Exact\\(", "\\bhashCode\\b", "\\bgetMessage\\b",
            "\\bnative\\b", "TEXT\\s*\\+", "\\+\\s*TEXT"};
        for (String word : ruledOut) {
            Check.holds("the file holds " + word, !Pattern.compile(word).matcher(code).find());
        }
        for (String row : code.split("\n")) {
            Check.holds("the file has a lambda: " + row,
                    !row.contains("->") || row.matches("\\s*(case|default)\\b.*"));
            Check.holds("the file has " + row, !row.startsWith("import ")
                    || row.matches("import java\\.util\\."
                            + "(ArrayList|List|Arrays|Iterator|NoSuchElementException);"));
        }
    }
}
