import java.io.IOException;
import java.lang.reflect.Method;
import java.lang.reflect.Modifier;
import java.nio.charset.StandardCharsets;
import java.nio.file.DirectoryStream;
import java.nio.file.Files;
import java.nio.file.Path;
import java.util.Set;
import java.util.TreeSet;
import java.util.regex.Matcher;
import java.util.regex.Pattern;

/** README.md: what it says is so when it is followed. */
public final class ReadmeTest {
    private static final Checks CHECKS = new Checks();
    private static final Pattern ANSWERED = Pattern.compile("(?m)^(x\\.\\w+\\([^\"\n]*\\)); +// (?:[A-Z]+ \\()?(-?\\d+)\\b");
    private static final String CHECKED = "due(\"$1\", $1, $2); //";

    public static void main(String[] args) throws IOException, InterruptedException {
        String readme = Files.readString(Path.of("README.md"), StandardCharsets.UTF_8);
        example(readme);
        tables(readme);
        oneAlone(readme);
        CHECKS.end();
    }

    /** The example compiles as it stands, and each call in it answers what is told behind it. */
    private static void example(String readme) throws IOException, InterruptedException {
        String example = only(readme, "(?s)```java\n(.*?)```");
        int calls = howOften(Pattern.compile("(?m)^x\\.").matcher(example));
        CHECKS.holds("there is an example", calls > 0);
        CHECKS.due("calls of the example with an answer", howOften(ANSWERED.matcher(example)), calls);
        Path program = Path.of("build/readme/ReadmeExample.java");
        Files.createDirectories(program.getParent());
        Files.writeString(program, "public final class ReadmeExample {\n"
                + "private static int wrong = 0;\n"
                + "private static void due(String call, long got, long want) {\n"
                + "if (got != want) { wrong++; System.out.println(call + \" answered \" + got + \", README.md says \" + want); }\n"
                + "}\n"
                + "public static void main(String[] args) {\n"
                + ANSWERED.matcher(example).replaceAll(CHECKED)
                + "System.exit(wrong == 0 ? 0 : 1);\n}\n}\n", StandardCharsets.UTF_8);
        CHECKS.due("the example", run("java", "-cp", System.getProperty("java.class.path"), program.toString()), 0);
    }

    private static void tables(String readme) throws IOException {
        Set<String> calls = new TreeSet<>();
        for (Method method : EelLocks.class.getDeclaredMethods()) {
            if (Modifier.isPublic(method.getModifiers())) {
                calls.add(method.getName());
            }
        }
        same("calls", headsOfRows(readme, "How to use it"), calls);

        Set<String> classes = new TreeSet<>();
        for (Class<?> inside : EelLocks.class.getDeclaredClasses()) {
            classes.add(inside.getSimpleName());
        }
        same("classes inside", headsOfRows(readme, "How it is built"), classes);

        Set<String> tests = new TreeSet<>();
        try (DirectoryStream<Path> files = Files.newDirectoryStream(Path.of("src/test/java"), "*Test.java")) {
            for (Path file : files) {
                tests.add(file.getFileName().toString().replace(".java", ""));
            }
        }
        same("tests", headsOfRows(readme, "How to run the tests"), tests);
    }

    private static void same(String what, Set<String> told, Set<String> there) {
        CHECKS.holds("the " + what + " are " + there + ", not " + told, told.equals(there));
    }

    /** The names in the first column of the table under a heading. */
    private static Set<String> headsOfRows(String readme, String heading) {
        String part = only(readme, "(?s)\n## " + heading + "\n(.*?)(?:\n## |$)");
        Set<String> names = new TreeSet<>();
        Matcher head = Pattern.compile("(?m)^\\|([^|\n]*)\\|").matcher(part);
        while (head.find()) {
            Matcher name = Pattern.compile("`(\\w+)`").matcher(head.group(1));
            while (name.find()) {
                names.add(name.group(1));
            }
        }
        return names;
    }

    private static void oneAlone(String readme) throws IOException, InterruptedException {
        String command = only(readme, "One alone: `([^`]+)`");
        CHECKS.due(command, run("bash", "-c", command), 0);
    }

    private static String only(String text, String pattern) {
        Matcher found = Pattern.compile(pattern).matcher(text);
        boolean isThere = found.find();
        CHECKS.holds("README.md has " + pattern, isThere);
        return isThere ? found.group(1) : "";
    }

    private static int howOften(Matcher matcher) {
        int often = 0;
        while (matcher.find()) {
            often++;
        }
        return often;
    }

    private static int run(String... command) throws IOException, InterruptedException {
        return new ProcessBuilder(command).inheritIO().start().waitFor();
    }
}
