import java.lang.reflect.Constructor;
import java.lang.reflect.Field;
import java.lang.reflect.Method;
import java.lang.reflect.Modifier;
import java.nio.file.Files;
import java.nio.file.Path;
import java.util.ArrayList;
import java.util.List;
import java.util.Set;
import java.util.TreeSet;
import java.util.regex.Matcher;
import java.util.regex.Pattern;

/**
 * The public face as the document tells it, and those rules of ../shared/LANGUAGE.md that can be
 * seen in the class or in the words of its file.
 */
public final class FaceTest {
    private static final String OUT = "IndexOutOfBoundsException";
    private static final String ARGUMENT = "IllegalArgumentException";
    private static final String STATE = "IllegalStateException";

    /** The headings and the calls behind them, in the order of the document. */
    private static final String[] FACE = {
        "---- days, accounts, regions",
        call("int pass(int days)", ARGUMENT, STATE),
        call("int addAccount(int above, int area, int size)", OUT, ARGUMENT, STATE),
        call("int putRule(int place, int first, int last, int size, int region)", OUT, ARGUMENT,
                STATE),
        call("int removeRule(int place)", OUT),
        call("int except(int account, int region)", OUT, ARGUMENT),
        call("int regionOf(int account)", OUT),
        "---- sellers",
        call("int addSeller(int above, int limit)", OUT, ARGUMENT, STATE),
        call("int adjust(int seller, int amount)", OUT, ARGUMENT),
        "---- chances",
        call("int addChance(int account, int seller, int amount)", OUT, ARGUMENT, STATE),
        call("int giveShare(int chance, int from, int to, int part)", OUT, ARGUMENT, STATE),
        call("int move(int chance, int stage)", OUT, ARGUMENT, STATE),
        call("int stage(int chance)", OUT),
        call("int daysIn(int chance, int stage)", OUT, ARGUMENT),
        call("int stalled(int days)", ARGUMENT),
        call("int worth(int chance)", OUT),
        call("int inRegion(int region, int stage)", ARGUMENT),
        call("int won(int account)", OUT),
        "---- quotes",
        call("int quote(int chance, int seller, int discount)", OUT, ARGUMENT, STATE),
        call("void approve(int quote, int seller)", OUT, STATE),
        call("int counting(int chance)", OUT, "NoSuchElementException"),
        call("int waiting()"),
        "---- forecasts",
        call("int forecast(int seller)", OUT),
        call("int own(int seller)", OUT),
        call("int freeze()", STATE),
        call("int since(int freeze, int seller)", OUT),
    };

    /** The argument is the folder of the project. */
    public static void main(String[] args) throws Exception {
        kind();
        methods();
        constructors();
        hidden();
        String file = Files.readString(Path.of(args[0], "src/main/java/SalesDesk.java"));
        declarations(file);
        words(file);
        Check.end();
    }

    private static String call(String start, String... thrown) {
        return "public " + start + (thrown.length == 0 ? "" : " throws " + String.join(", ", thrown));
    }

    private static void kind() {
        int modifiers = SalesDesk.class.getModifiers();
        Check.due("the class is public and final", Modifier.PUBLIC | Modifier.FINAL, modifiers);
        Check.holds("the class has no package", SalesDesk.class.getPackageName().isEmpty());
        Check.holds("the class extends none", SalesDesk.class.getSuperclass() == Object.class);
        Check.due("the interfaces of the class", 0, SalesDesk.class.getInterfaces().length);
    }

    /** A method as the document would write it, but for the names of the parameters. */
    private static String line(Method method) {
        List<String> taken = new ArrayList<>();
        for (Class<?> kind : method.getParameterTypes()) {
            taken.add(kind.getName());
        }
        List<String> thrown = new ArrayList<>();
        for (Class<?> kind : method.getExceptionTypes()) {
            thrown.add(kind.getSimpleName());
        }
        return call(method.getReturnType() + " " + method.getName() + "("
                + String.join(", ", taken) + ")", thrown.toArray(new String[0]));
    }

    private static Set<String> due() {
        Set<String> due = new TreeSet<>();
        for (String row : FACE) {
            if (row.startsWith("public ")) {
                due.add(row.replaceAll("int \\w+(?=[,)])", "int"));
            }
        }
        return due;
    }

    private static void methods() {
        Set<String> are = new TreeSet<>();
        Set<String> names = new TreeSet<>();
        for (Method method : SalesDesk.class.getDeclaredMethods()) {
            if (!Modifier.isPrivate(method.getModifiers()) && !method.isSynthetic()) {
                are.add(line(method));
                names.add(method.getName());
                Check.holds(method + " is public and of the object",
                        method.getModifiers() == Modifier.PUBLIC);
            }
        }
        Check.due("the number of methods", 25, names.size());
        Check.holds("the methods are " + are + ", due are " + due(), are.equals(due()));
        for (Method method : SalesDesk.class.getDeclaredMethods()) {
            if (Modifier.isPrivate(method.getModifiers())) {
                Check.holds("a private method bears the public name " + method.getName(),
                        !names.contains(method.getName()));
                Check.holds(method + " takes at most seven parameters",
                        method.getParameterCount() <= 7);
            }
        }
    }

    /** The calls as they stand in the file, with the names of their parameters and the headings. */
    private static void declarations(String file) {
        String flat = file.replaceAll("(?s)/\\*.*?\\*/", " ").replace("java.util.", "")
                .replaceAll("\\s+", " ");
        Matcher found = Pattern.compile("// (---- [a-z, ]*[a-z])(?= public )"
                + "|(public (?:int|void) \\w+\\([^)]*\\)[^{]*?) \\{").matcher(flat);
        List<String> rows = new ArrayList<>();
        while (found.find()) {
            rows.add(found.group(1) == null ? found.group(2) : found.group(1));
        }
        Check.holds("the file declares " + rows, rows.equals(List.of(FACE)));
    }

    private static void constructors() {
        Constructor<?>[] constructors = SalesDesk.class.getDeclaredConstructors();
        Check.due("the number of constructors", 1, constructors.length);
        Check.holds("the constructor is public and takes nothing",
                Modifier.isPublic(constructors[0].getModifiers())
                        && constructors[0].getParameterCount() == 0);
        Check.due("the exceptions it declares", 0, constructors[0].getExceptionTypes().length);
    }

    private static void hidden() {
        int ofTheObject = 0;
        for (Field field : SalesDesk.class.getDeclaredFields()) {
            int modifiers = field.getModifiers();
            Check.holds(field + " is private", Modifier.isPrivate(modifiers));
            if (Modifier.isStatic(modifiers)) {
                Check.holds(field + " is final", Modifier.isFinal(modifiers));
            } else {
                ofTheObject++;
            }
        }
        Check.holds("at most twenty fields", ofTheObject <= 20);
        Class<?>[] inside = SalesDesk.class.getDeclaredClasses();
        Check.holds("at most twelve classes", inside.length < 12);
        for (Class<?> kind : inside) {
            Check.holds(kind + " is private or package-visible",
                    !Modifier.isPublic(kind.getModifiers())
                            && !Modifier.isProtected(kind.getModifiers()));
        }
    }

    /** Only what the language rules out wherever it stands; comments and texts do not count. */
    private static void words(String file) {
        String code = file.replaceAll("(?s)/\\*.*?\\*/", " ").replaceAll("//[^\n]*", " ")
                .replaceAll("\"[^\"\n]*\"", "TEXT");
        String[] ruledOut = {"::", "\\bfinally\\b", "\\bsynchronized\\b", "\\bassert\\b",
            "\\bstatic\\s*\\{", "\\bpackage\\b", "\\bSystem\\.(?!arraycopy\\b)", "\\bThread\\b",
            "\\bRandom\\b", "\\brandom\\b", "Exact\\(", "\\bhashCode\\b", "\\bgetMessage\\b",
            "\\bnative\\b", "TEXT\\s*\\+", "\\+\\s*TEXT"};
        for (String word : ruledOut) {
            Check.holds("the file holds " + word, !Pattern.compile(word).matcher(code).find());
        }
        for (String row : code.split("\n")) {
            Check.holds("the file has a lambda: " + row,
                    !row.contains("->") || row.matches("\\s*(case|default)\\b.*"));
            Check.holds("the file has " + row, !row.startsWith("import ")
                    || row.matches("import java\\.util\\."
                            + "(ArrayList|List|Arrays|Iterator|NoSuchElementException);"));
        }
    }
}
