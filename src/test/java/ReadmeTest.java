import java.io.IOException;
import java.lang.reflect.InvocationTargetException;
import java.lang.reflect.Method;
import java.lang.reflect.Modifier;
import java.nio.charset.StandardCharsets;
import java.nio.file.Files;
import java.nio.file.Path;
import java.util.Arrays;
import java.util.Set;
import java.util.TreeSet;
import java.util.regex.Matcher;
import java.util.regex.Pattern;

/** Makes the calls that README.md shows, in their order, and looks whether each answers as is said there. */
public final class ReadmeTest {
    private static final Pattern CALL = Pattern.compile("dials\\.(\\w+)\\((.*)\\); +// ([^:]+)(:.*)?");
    private static final Pattern TAPE = Pattern.compile("tape\\(dials, \"([^\"]*)\"\\)");
    private static final int MOST_CALLS = 512;

    private final LyingDials dials = new LyingDials();
    private final Set<String> unshown = new TreeSet<>();
    private int calls = 0;

    private ReadmeTest() {
        for (Method m : LyingDials.class.getDeclaredMethods()) {
            if (Modifier.isPublic(m.getModifiers())) {
                unshown.add(m.getName());
            }
        }
    }

    public static void main(String[] args) throws IOException, IllegalAccessException {
        String page = Files.readString(Path.of("README.md"), StandardCharsets.UTF_8);
        new ReadmeTest().show(page);
        taping(page);
        everyTestIsNamed(page);
        Kit.end();
    }

    private void show(String page) throws IllegalAccessException {
        // A text may go on in the next line.
        for (String line : page.replaceAll("\"\n +\\+ \"", "").split("\n")) {
            Matcher m = CALL.matcher(line);
            if (m.matches()) {
                Kit.same(line, m.group(3), answer(m.group(1), m.group(2)));
            } else if (line.startsWith("dials.")) {
                Kit.fail("README.md has a call without an answer: " + line);
            }
        }
        Kit.same("calls that README.md doesn't show", "[]", unshown.toString());
        Kit.same("at most 512 calls", true, calls <= MOST_CALLS);
    }

    private String answer(String name, String written) throws IllegalAccessException {
        int[] numbers = numbers(written);
        for (Method m : LyingDials.class.getDeclaredMethods()) {
            if (m.getName().equals(name) && Modifier.isPublic(m.getModifiers())) {
                unshown.remove(name);
                calls++;
                return invoke(m, numbers);
            }
        }
        return "no such call";
    }

    private int[] numbers(String written) {
        Matcher text = TAPE.matcher(written);
        if (text.matches()) {
            calls += (text.group(1).length() + 19) / 20;
            return new int[] {tape(dials, text.group(1))};
        }
        return written.isEmpty() ? new int[0]
                : Arrays.stream(written.split(", ")).mapToInt(Integer::decode).toArray();
    }

    private String invoke(Method m, int[] numbers) throws IllegalAccessException {
        try {
            Object answer = m.invoke(dials, Arrays.stream(numbers).boxed().toArray());
            boolean none = answer instanceof Integer number && number == LyingDials.NONE;
            return none ? "NONE" : answer == null ? "nothing" : answer.toString();
        } catch (InvocationTargetException e) {
            return "throws " + e.getCause().getClass().getSimpleName();
        }
    }

    /** As README.md shows it, letter by letter. */
    private static final String TAPING = """
            static int tape(LyingDials dials, String text) {
                int[] five = new int[5];
                for (int at = 0; at < text.length(); at += 20) {
                    for (int i = 0; i < 20; i++) {
                        char sign = at + i < text.length() ? text.charAt(at + i) : ' ';
                        five[i / 4] = five[i / 4] << 8 | sign;
                    }
                    dials.feed(five[0], five[1], five[2], five[3], five[4]);
                }
                return text.length();
            }
            """;

    static int tape(LyingDials dials, String text) {
        int[] five = new int[5];
        for (int at = 0; at < text.length(); at += 20) {
            for (int i = 0; i < 20; i++) {
                char sign = at + i < text.length() ? text.charAt(at + i) : ' ';
                five[i / 4] = five[i / 4] << 8 | sign;
            }
            dials.feed(five[0], five[1], five[2], five[3], five[4]);
        }
        return text.length();
    }

    private static void taping(String page) throws IOException {
        Kit.same("README.md shows tape(..)", true, page.contains(TAPING));
        String own = Files.readString(Path.of("src/test/java/ReadmeTest.java"), StandardCharsets.UTF_8);
        Kit.same("which is the one here", true, own.contains(TAPING.indent(4)));
    }

    private static void everyTestIsNamed(String page) throws IOException {
        try (var files = Files.list(Path.of("src/test/java"))) {
            files.map(f -> f.getFileName().toString()).filter(f -> f.endsWith("Test.java")).sorted().forEach(
                    f -> Kit.same("README.md names " + f, true, page.contains("`" + f.replace(".java", "") + "`")));
        }
    }
}
