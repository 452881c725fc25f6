import java.lang.reflect.Method;
import java.lang.reflect.Modifier;
import java.nio.file.Files;
import java.nio.file.Path;
import java.util.Set;
import java.util.TreeSet;
import java.util.regex.Matcher;
import java.util.regex.Pattern;
import java.util.stream.Collectors;
import java.util.stream.Stream;

/**
 * What README.md says of the class and its tests. Its examples are one program: a call whose
 * comment begins with a number must answer it, and one whose comment begins with "throws" must
 * throw just that.
 */
public final class ReadmeTest {
    private static final String NAME = "ReadmeExample";
    private static final Pattern ANSWER = Pattern.compile("(.*);\\s*// (-?\\d+)\\b.*");
    private static final Pattern THROWN = Pattern.compile("(.*);\\s*// throws (\\w+):.*");

    /** The argument is the folder of the project. */
    public static void main(String[] args) throws Exception {
        Path root = Path.of(args[0]);
        String readme = Files.readString(root.resolve("README.md"));
        examples(readme);
        calls(readme);
        tests(readme, root);
        Check.end();
    }

    private static void examples(String readme) throws Exception {
        StringBuilder program = new StringBuilder("import java.util.*;\n");
        program.append("final class " + NAME + " {\n    static void run() {\n");
        Matcher block = Pattern.compile("(?s)```java\n(.*?)```").matcher(readme);
        while (block.find()) {
            for (String row : block.group(1).split("\n")) {
                program.append(checked(row)).append('\n');
            }
        }
        program.append("    }\n}\n");
        run(program.toString());
    }

    /** A row of an example, with a check of what its comment says. */
    private static String checked(String row) {
        Matcher answer = ANSWER.matcher(row);
        if (answer.matches()) {
            String call = answer.group(1);
            return "Check.due(\"" + call + "\", " + answer.group(2) + ", " + call + ");";
        }
        Matcher thrown = THROWN.matcher(row);
        if (thrown.matches()) {
            String call = thrown.group(1);
            return "Check.fails(\"" + call + "\", " + thrown.group(2) + ".class, () -> " + call
                    + ");";
        }
        return row;
    }

    /** The program stands beside the tests, as it uses what only their package sees. */
    private static void run(String program) throws Exception {
        Path classes = Path.of(ReadmeTest.class.getProtectionDomain().getCodeSource()
                .getLocation().toURI());
        Path folder = Files.createTempDirectory("readme");
        Path file = Files.writeString(folder.resolve(NAME + ".java"), program);
        int failed = new ProcessBuilder("javac", "-cp", classes.toString(), "-d",
                classes.toString(), file.toString()).inheritIO().start().waitFor();
        Files.delete(file);
        Files.delete(folder);
        Check.due("the examples do not compile: " + program, 0, failed);
        if (failed == 0) {
            Method run = Class.forName(NAME).getDeclaredMethod("run");
            Check.sentence("README.md", () -> invoke(run));
        }
    }

    private static void invoke(Method run) {
        try {
            run.invoke(null);
        } catch (ReflectiveOperationException e) {
            throw new IllegalStateException(e.getCause());
        }
    }

    private static void calls(String readme) {
        for (Method method : SalesDesk.class.getDeclaredMethods()) {
            if (Modifier.isPublic(method.getModifiers())) {
                Check.holds("README.md does not name " + method.getName(),
                        readme.contains("`" + method.getName() + "`"));
            }
        }
    }

    private static void tests(String readme, Path root) throws Exception {
        Set<String> named = new TreeSet<>();
        Matcher name = Pattern.compile("\\| `(\\w+Test)` \\|").matcher(readme);
        while (name.find()) {
            named.add(name.group(1));
        }
        try (Stream<Path> files = Files.list(root.resolve("src/test/java"))) {
            Set<String> are = files.map(file -> file.getFileName().toString())
                    .filter(file -> file.endsWith("Test.java"))
                    .map(file -> file.substring(0, file.length() - 5))
                    .collect(Collectors.toCollection(TreeSet::new));
            Check.holds("the tests are " + are + ", README.md names " + named, are.equals(named));
        }
    }
}
