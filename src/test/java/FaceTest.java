import java.io.IOException;
import java.lang.reflect.Constructor;
import java.lang.reflect.Field;
import java.lang.reflect.Member;
import java.lang.reflect.Method;
import java.lang.reflect.Modifier;
import java.nio.file.Files;
import java.nio.file.Path;
import java.util.Arrays;
import java.util.TreeSet;

/** The public face is the document's, and nothing else can be seen from outside. */
public final class FaceTest {
    private static final String[] METHODS = {
        "int judge 2", "int paper 2", "int tie 3", "int mark 3", "int set 3",
        "int say 1", "int wipe 0", "int fault 0", "int rule 0", "int yes 1",
        "long taken 3", "long lot 4", "long right 3", "long more 4", "long rounds 5",
        "long worth 3", "int joined 1", "int parts 0", "long harsh 2", "int swap 1", "int ring 1", "int seen 2",
        "int bid 3", "int match 3", "int held 1", "int told 1"};

    public static void main(String[] args) throws IllegalAccessException, IOException {
        Class<?> face = PaperMarks.class;
        Due.holds("public and final", Modifier.isPublic(face.getModifiers()) && Modifier.isFinal(face.getModifiers()));
        Due.holds("no package", face.getPackageName().isEmpty());
        Due.holds("it extends nothing", face.getSuperclass() == Object.class && face.getInterfaces().length == 0);
        headsOfTheDocument();
        methods(face);
        constants(face);
        for (Constructor<?> made : face.getDeclaredConstructors()) {
            Due.holds("one constructor", Modifier.isPublic(made.getModifiers()) && made.getParameterCount() == 0);
        }
        for (Class<?> inside : face.getDeclaredClasses()) {
            int modifiers = inside.getModifiers();
            Due.holds(inside + " is static", Modifier.isStatic(modifiers) && !Modifier.isPublic(modifiers));
            fewFields(inside);
        }
        fewFields(face);
        Due.holds("at most twelve classes", face.getDeclaredClasses().length < 12);
        Due.end();
    }

    /** Each line of the document's face stands in the source, with its names. */
    private static void headsOfTheDocument() throws IOException {
        String document = Files.readString(Path.of("../shared/DOC.md"));
        String source = Files.readString(Path.of("src/main/java/PaperMarks.java"));
        int from = document.indexOf("public final class PaperMarks {");
        String block = document.substring(from, document.indexOf("```", from));
        int heads = 0;
        for (String line : block.split("\n")) {
            if (line.startsWith("    public ")) {
                String head = line.endsWith(");") ? line.substring(0, line.length() - 1) + " {" : line;
                Due.holds("the source has" + line, source.contains("\n" + head + "\n"));
                heads++;
            }
        }
        // The constants' two lines and the constructor's go with the methods.
        Due.is("lines of the document's face", heads, METHODS.length + 3);
    }

    private static void methods(Class<?> face) {
        TreeSet<String> seen = new TreeSet<>();
        for (Method method : face.getDeclaredMethods()) {
            if (isSeen(method)) {
                Due.holds(method.getName() + " takes ints", onlyInts(method));
                seen.add(method.getReturnType() + " " + method.getName() + " " + method.getParameterCount());
            }
        }
        TreeSet<String> due = new TreeSet<>(Arrays.asList(METHODS));
        Due.holds("methods " + seen + " for " + due, seen.equals(due));
    }

    private static boolean onlyInts(Method method) {
        for (Class<?> type : method.getParameterTypes()) {
            if (type != int.class) {
                return false;
            }
        }
        return !Modifier.isStatic(method.getModifiers()) && Modifier.isPublic(method.getModifiers());
    }

    private static boolean isSeen(Member member) {
        return !Modifier.isPrivate(member.getModifiers()) && !member.isSynthetic();
    }

    private static void constants(Class<?> face) throws IllegalAccessException {
        TreeSet<String> seen = new TreeSet<>();
        for (Field field : face.getDeclaredFields()) {
            if (isSeen(field)) {
                seen.add(field.toString() + " = " + field.get(null));
            }
        }
        String head = "public static final ";
        TreeSet<String> due = new TreeSet<>(Arrays.asList(
            head + "int PaperMarks.UNKNOWN = -1", head + "int PaperMarks.OUTSIDE = -2",
            head + "int PaperMarks.STATE = -3", head + "int PaperMarks.FULL = -4",
            head + "int PaperMarks.NO = -5", head + "int PaperMarks.NONE = -6",
            head + "long PaperMarks.LOST = -1000000000000000000"));
        Due.holds("constants " + seen + " for " + due, seen.equals(due));
    }

    private static void fewFields(Class<?> owner) {
        int own = 0;
        for (Field field : owner.getDeclaredFields()) {
            boolean isStatic = Modifier.isStatic(field.getModifiers());
            Due.holds(field + " is final if static", !isStatic || Modifier.isFinal(field.getModifiers()));
            own += isStatic ? 0 : 1;
        }
        Due.holds(owner + " has few fields", own <= 20);
    }
}
