import java.io.IOException;
import java.lang.reflect.Method;
import java.lang.reflect.Modifier;
import java.net.URL;
import java.net.URLClassLoader;
import java.nio.file.Files;
import java.nio.file.Path;
import java.util.ArrayList;
import java.util.List;
import java.util.Set;
import java.util.TreeSet;
import java.util.regex.Matcher;
import java.util.regex.Pattern;
import java.util.stream.Collectors;
import java.util.stream.Stream;
import javax.tools.ToolProvider;

/** What README.md says is so: its lines of code answer as it says, and its tables leave nothing out. */
public final class ReadmeTest {
    private static final Path MADE = Path.of("build/readme");
    /** A call on a line of its own; behind it what it answers, up to a colon. */
    private static final Pattern CALL = Pattern.compile("((?:x|new PaperMarks\\(\\))\\..*\\)); +// ([^:]+)(: .*)?");
    private static final Pattern NAME = Pattern.compile("\\b(UNKNOWN|OUTSIDE|STATE|FULL|NO|NONE|LOST)\\b");

    public static void main(String[] args) throws IOException, ReflectiveOperationException {
        List<String> page = Files.readAllLines(Path.of("README.md"));
        List<String> code = codeOf(page);
        everyCallHasAnAnswer(page, code);
        answersAreAsTold(page, code);
        everyCallIsTold(page, String.join("\n", code));
        everyTestIsTold(page);
        everyConstantIsTold(page);
        Due.end();
    }

    /** The page's lines outside its blocks of code are empty here, so that places stay the same. */
    private static List<String> codeOf(List<String> page) {
        List<String> code = new ArrayList<>();
        boolean inside = false;
        for (String line : page) {
            boolean fence = line.startsWith("```");
            code.add(inside && !fence ? line : "");
            inside = fence ? line.equals("```java") : inside;
        }
        return code;
    }

    private static void everyCallHasAnAnswer(List<String> page, List<String> code) {
        for (int at = 0; at < code.size(); at++) {
            if (code.get(at).startsWith("x.") || code.get(at).startsWith("new ")) {
                Due.holds("line " + (at + 1) + " tells its answer: " + page.get(at), CALL.matcher(code.get(at)).matches());
            }
        }
    }

    private static void answersAreAsTold(List<String> page, List<String> code)
            throws IOException, ReflectiveOperationException {
        StringBuilder body = new StringBuilder();
        for (int at = 0; at < code.size(); at++) {
            Matcher call = CALL.matcher(code.get(at));
            if (call.matches()) {
                String due = NAME.matcher(call.group(2)).replaceAll("PaperMarks.$1");
                body.append("seen.add(new long[] {" + at + ", " + call.group(1) + ", " + due + "});\n");
            } else {
                body.append(code.get(at)).append('\n');
            }
        }
        List<?> seen = run(body.toString());
        Due.holds("the page's calls are found: " + seen.size(), seen.size() > 50);
        for (Object each : seen) {
            long[] row = (long[]) each;
            Due.is("README.md: " + page.get((int) row[0]), row[1], row[2]);
        }
    }

    /** Runs the page's program: rows of a line's place, what its call answered, and what it says. */
    private static List<?> run(String body) throws IOException, ReflectiveOperationException {
        Files.createDirectories(MADE);
        Path source = MADE.resolve("ReadmeLines.java");
        Files.writeString(source, "import java.util.*;\npublic final class ReadmeLines {\n"
            + "public static List<long[]> seen() {\nList<long[]> seen = new ArrayList<>();\n" + body
            + "return seen;\n}\n}\n");
        int exit = ToolProvider.getSystemJavaCompiler().run(null, null, null, "-cp",
            System.getProperty("java.class.path"), "-d", MADE.toString(), source.toString());
        Due.is("README.md's code compiles: exit code", exit, 0);
        if (exit != 0) {
            return List.of();
        }
        try (URLClassLoader loader = new URLClassLoader(new URL[] {MADE.toUri().toURL()})) {
            return (List<?>) loader.loadClass("ReadmeLines").getMethod("seen").invoke(null);
        }
    }

    private static void everyCallIsTold(List<String> page, String code) {
        for (Method method : PaperMarks.class.getDeclaredMethods()) {
            if (Modifier.isPublic(method.getModifiers())) {
                String name = method.getName();
                Due.holds("a table tells " + name, page.stream().anyMatch(line -> line.startsWith("| `" + name + "(")));
                Due.holds("a block of code calls " + name, code.contains("." + name + "("));
            }
        }
    }

    private static void everyTestIsTold(List<String> page) throws IOException {
        Set<String> told = new TreeSet<>();
        for (String line : page) {
            Matcher row = Pattern.compile("\\| (\\w+Test) \\|.*").matcher(line);
            if (row.matches()) {
                told.add(row.group(1));
            }
        }
        Set<String> tests;
        try (Stream<Path> files = Files.list(Path.of("src/test/java"))) {
            tests = files.map(file -> file.getFileName().toString().replace(".java", ""))
                .filter(name -> name.endsWith("Test")).collect(Collectors.toCollection(TreeSet::new));
        }
        Due.holds("tests told " + told + " of " + tests, told.equals(tests));
    }

    private static void everyConstantIsTold(List<String> page) {
        int[] values = {PaperMarks.UNKNOWN, PaperMarks.OUTSIDE, PaperMarks.STATE, PaperMarks.FULL, PaperMarks.NO,
            PaperMarks.NONE};
        String[] names = {"UNKNOWN", "OUTSIDE", "STATE", "FULL", "NO", "NONE"};
        for (int i = 0; i < names.length; i++) {
            String told = "`" + names[i] + "` " + values[i] + " ";
            Due.holds("the page tells " + told, page.stream().anyMatch(line -> line.contains(told)));
        }
    }
}
