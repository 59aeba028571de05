import java.io.IOException;
import java.lang.reflect.Field;
import java.lang.reflect.Method;
import java.lang.reflect.Modifier;
import java.nio.charset.StandardCharsets;
import java.nio.file.Files;
import java.nio.file.Path;
import java.util.ArrayList;
import java.util.Arrays;
import java.util.List;
import java.util.Set;
import java.util.TreeSet;
import java.util.regex.Matcher;
import java.util.regex.Pattern;

/** The public face of the document, and what can be seen of the rules of LANGUAGE.md in the source. */
public final class FaceTest {
    private static final String I = "IllegalArgumentException";
    private static final String N = "NoSuchElementException";
    private static final String[] FACE = {
        "int feed 5", "int port 1 " + I, "int law 1 " + I, "int lawful 2 " + I + " " + N, "int judged 2 " + I + " " + N,
        "int fault 0", "int count 1 " + N, "int dial 2 " + N, "int day 2 " + N, "int tells 3 " + N, "int turn 2 " + N,
        "int read 4 " + N, "int unread 0", "int faults 2 " + I + " " + N, "int next 3 " + N, "int see 2 " + N,
        "int forget 0", "int minutes 2 " + N, "int days 1 " + N, "int late 4 " + N, "int meet 5 " + N,
        "int mend 3 " + N, "int undo 0", "int best 4 " + I + " " + N, "int year 3 " + N, "int live 1 " + N,
        "int middle 3 " + I + " " + N, "int together 2 " + N, "int takes 2 " + N, "void image 0",
        "boolean restore 0"};
    private static final String[] NEVER = {"->", "::", "\\bcatch\\b", "\\bfinally\\b", "\\bsynchronized\\b",
        "\\bassert\\b", "static \\{", "while \\(true\\)", "for \\(;;\\)", "\\brecord\\b", "\\benum\\b", "Exact\\(",
        "\\bdouble\\b", "\\bfloat\\b", "\\bObject\\b", "\\binstanceof\\b", "System\\.(?!arraycopy)", "\\bvar\\b"};

    private FaceTest() {
    }

    public static void main(String[] args) throws IOException {
        members();
        String source = Files.readString(Path.of("src/main/java/LyingDials.java"), StandardCharsets.UTF_8);
        String code = source.replaceAll("(?s)/\\*.*?\\*/", "").replaceAll("//[^\n]*", "");
        rules(code);
        methods(code);
        Kit.end();
    }

    private static String written(Method m) {
        List<String> thrown = new ArrayList<>();
        for (Class<?> c : m.getExceptionTypes()) {
            thrown.add(c.getSimpleName());
        }
        thrown.sort(null);
        String line = m.getReturnType().getSimpleName() + " " + m.getName() + " " + m.getParameterCount();
        return thrown.isEmpty() ? line : line + " " + String.join(" ", thrown);
    }

    private static void members() {
        Set<String> names = new TreeSet<>();
        Set<String> face = new TreeSet<>();
        for (Method m : LyingDials.class.getDeclaredMethods()) {
            if (Modifier.isPublic(m.getModifiers())) {
                face.add(written(m));
                names.add(m.getName());
            } else {
                Kit.same(m.getName() + " is private", true, Modifier.isPrivate(m.getModifiers()));
            }
        }
        Kit.same("the face", new TreeSet<>(Arrays.asList(FACE)), face);
        Kit.same("the class is final", true, Modifier.isFinal(LyingDials.class.getModifiers()));
        Kit.same("constructors", 1, LyingDials.class.getDeclaredConstructors().length);
        List<Class<?>> classes = new ArrayList<>(List.of(LyingDials.class.getDeclaredClasses()));
        Kit.same("at most twelve classes", true, classes.size() < 12);
        for (Class<?> c : classes) {
            Kit.same(c.getName() + " is static", true, Modifier.isStatic(c.getModifiers()));
        }
        classes.add(LyingDials.class);
        for (Class<?> c : classes) {
            fields(c);
            for (Method m : c.getDeclaredMethods()) {
                boolean face2 = c == LyingDials.class && Modifier.isPublic(m.getModifiers());
                Kit.same(c.getName() + "." + m.getName() + " has a name of its own", false,
                        !face2 && names.contains(m.getName()));
                Kit.same(m.getName() + " takes at most seven", true, m.getParameterCount() <= 7);
            }
        }
    }

    private static void fields(Class<?> c) {
        int many = 0;
        for (Field f : c.getDeclaredFields()) {
            boolean fixed = Modifier.isStatic(f.getModifiers());
            many += fixed ? 0 : 1;
            Kit.same(f.getName() + " is no static state", true, !fixed || Modifier.isFinal(f.getModifiers()));
            if (c == LyingDials.class) {
                boolean none = f.getName().equals("NONE");
                Kit.same(f.getName() + " is private", !none, Modifier.isPrivate(f.getModifiers()));
                Kit.same(f.getName() + " is public", none, Modifier.isPublic(f.getModifiers()));
            }
        }
        Kit.same(c.getName() + " has at most twenty fields", true, many <= 20);
    }

    private static void rules(String code) {
        for (String never : NEVER) {
            Matcher m = Pattern.compile(never).matcher(code);
            Kit.same("the source has " + never, false, m.find());
        }
        Matcher imports = Pattern.compile("import ([^;]+);").matcher(code);
        while (imports.find()) {
            Kit.same("import " + imports.group(1), true,
                    List.of("java.util.Arrays", "java.util.NoSuchElementException").contains(imports.group(1)));
        }
        Matcher thrown = Pattern.compile("\\bthrow\\b[^;]*;").matcher(code);
        while (thrown.find()) {
            Kit.same(thrown.group(), true,
                    thrown.group().matches("throw new (IllegalArgument|NoSuchElement)Exception\\(\"[^\"]*\"\\);"));
        }
    }

    /** None is too long, and none makes an object, but for what it throws: rows are made with the object alone. */
    private static void methods(String code) {
        int depth = 0;
        int begun = -1;
        String[] lines = code.split("\n");
        for (int i = 0; i < lines.length; i++) {
            String line = lines[i];
            boolean opens = line.matches("    (    )?[a-z].*\\) (throws .*)?\\{") && !line.contains(" class ");
            if (begun < 0 && opens) {
                begun = i;
                depth = line.startsWith("        ") ? 8 : 4;
            }
            if (begun >= 0) {
                boolean makes = line.contains("new ") && !line.contains("throw new");
                Kit.same("line " + (i + 1) + " makes an object", false, makes);
            }
            if (begun >= 0 && line.equals(" ".repeat(depth) + "}")) {
                Kit.same(lines[begun].trim() + " is short", true, i - begun <= 60);
                begun = -1;
            }
        }
        Kit.same("all methods end", -1, begun);
    }
}
