import java.io.IOException;
import java.nio.file.Files;
import java.nio.file.Path;
import java.util.ArrayList;
import java.util.HashSet;
import java.util.List;
import java.util.Set;
import java.util.regex.Matcher;
import java.util.regex.Pattern;

/** What can be seen of the language rules in the source's text. */
public final class FormTest {
    private static final Pattern HEAD =
        Pattern.compile("^ +(public |private )?(static )?[A-Za-z\\[\\]]+ ([a-zA-Z]+)\\(([^()]*)\\) \\{$");

    public static void main(String[] args) throws IOException {
        String source = Files.readString(Path.of("src/main/java/PaperMarks.java"));
        String code = source.replaceAll("(?s)/\\*.*?\\*/", "").replaceAll("//[^\n]*", "");
        words(code);
        library(code);
        loops(code.split("\n"));
        statics(code.split("\n"));
        madeOnce(code.split("\n"));
        methods(source.split("\n"));
        Due.end();
    }

    private static void words(String code) {
        for (String word : new String[] {"throw", "throws", "try", "catch", "finally", "synchronized", "assert",
            "package", "protected", "var", "goto", "instanceof", "double", "float", "volatile", "transient"}) {
            Due.holds("no " + word, !Pattern.compile("\\b" + word + "\\b").matcher(code).find());
        }
        Due.holds("no lambda", !code.contains("->"));
        Due.holds("no method reference", !code.contains("::"));
        Due.holds("no text", !code.contains("\""));
        Due.holds("no initialiser block", !Pattern.compile("static\\s*\\{").matcher(code).find());
        Due.holds("no Exact", !code.contains("Exact"));
    }

    /** Only these names of the library are used. */
    private static void library(String code) {
        Matcher imports = Pattern.compile("import ([^;]*);").matcher(code);
        while (imports.find()) {
            Due.holds("import " + imports.group(1), imports.group(1).equals("java.util.Arrays"));
        }
        Set<String> fine = Set.of("Integer.bitCount", "Integer.compare", "Math.abs", "Math.min", "Math.max",
            "Arrays.fill");
        Matcher uses = Pattern.compile("\\b(Integer|Long|Math|Arrays|System|String|Character|Object)\\.(\\w+)")
            .matcher(code);
        while (uses.find()) {
            Due.holds("use of " + uses.group(), fine.contains(uses.group()) || uses.group().startsWith("java"));
        }
    }

    /** Each loop counts upwards against a bound, in its own line. */
    private static void loops(String[] lines) {
        int seen = 0;
        for (String line : lines) {
            Due.holds("no loop but for: " + line, !line.matches(".*\\b(while|do)\\b.*"));
            if (line.matches(".*\\bfor\\b.*")) {
                Due.holds("counted: " + line,
                    line.matches(" +for \\(int (\\w+) = [^;]+; \\1 <=? [^;]+; \\1\\+\\+\\) \\{"));
                seen++;
            }
        }
        Due.holds("loops seen: " + seen, seen > 20);
    }

    private static void statics(String[] lines) {
        for (String line : lines) {
            boolean head = line.endsWith("{");
            boolean constant = line.matches(" +(public |private )?static final (int|long) [A-Z][A-Z_]* = .*;");
            Due.holds("a constant: " + line, !line.matches(".*\\bstatic\\b.*") || head || constant);
        }
    }

    /** All calls of a run live in one room: rows and objects are made with the object, none by a call. */
    private static void madeOnce(String[] lines) {
        for (String line : lines) {
            boolean field = line.matches(" +final \\S+ \\S+ = new .*;");
            boolean inConstructor = line.matches("        [a-z]+ = new [A-Z][a-z]+\\(.*\\);");
            Due.holds("made once: " + line, !line.contains("new ") || field || inConstructor);
        }
    }

    private static void methods(String[] lines) {
        Set<String> open = new HashSet<>();
        List<String> hidden = new ArrayList<>();
        for (int at = 0; at < lines.length; at++) {
            Matcher head = HEAD.matcher(lines[at]);
            if (head.matches()) {
                if ("public ".equals(head.group(1))) {
                    open.add(head.group(3));
                } else {
                    hidden.add(head.group(3));
                }
                Due.holds(head.group(3) + " is short", lengthFrom(lines, at) <= 60);
                Due.holds(head.group(3) + " takes few", head.group(4).split(",").length <= 7);
            }
        }
        Due.is("public methods seen", open.size(), 26);
        Due.holds("other methods seen", hidden.size() > 30);
        for (String name : hidden) {
            Due.holds("no other method is named " + name, !open.contains(name));
        }
    }

    private static int lengthFrom(String[] lines, int at) {
        String indent = lines[at].substring(0, lines[at].length() - lines[at].stripLeading().length());
        for (int end = at + 1; end < lines.length; end++) {
            if (lines[end].equals(indent + "}")) {
                return end - at;
            }
        }
        return lines.length;
    }
}
