import java.io.IOException;
import java.nio.charset.StandardCharsets;
import java.nio.file.Files;
import java.nio.file.Path;
import java.util.Objects;

/** What the tests share: due answers, due exceptions, sentences of the document, and texts put on the tape. */
final class Kit {
    interface Call {
        long answer();
    }

    private static final Path DOCUMENT = Path.of("../shared/DOC.md");

    private static int wrong = 0;
    private static int asked = 0;
    private static String document = null;

    private Kit() {
    }

    static void due(String what, long want, Call call) {
        asked++;
        String got;
        try {
            got = Long.toString(call.answer());
        } catch (RuntimeException e) {
            got = "throws." + e.getClass().getSimpleName();
        }
        if (!got.equals(Long.toString(want))) {
            fail(what + " answered " + got + ", due is " + want);
        }
    }

    static void none(String what, Call call) {
        dueThrow(what, "NoSuchElementException", call);
    }

    static void illegal(String what, Call call) {
        dueThrow(what, "IllegalArgumentException", call);
    }

    private static void dueThrow(String what, String want, Call call) {
        asked++;
        String got;
        try {
            got = Long.toString(call.answer());
        } catch (RuntimeException e) {
            got = e.getClass().getSimpleName();
        }
        if (!got.equals(want)) {
            fail(what + " answered " + got + ", due is throws." + want);
        }
    }

    static void same(String what, Object want, Object got) {
        asked++;
        if (!Objects.equals(want, got)) {
            fail(what + " answered " + got + ", due is " + want);
        }
    }

    /** Which words of the document the lines behind it test: they must stand there, blanks and line ends alike. */
    static void says(String words) {
        if (document == null) {
            document = readDocument();
        }
        asked++;
        if (!document.contains(words)) {
            fail("the document doesn't say: " + words);
        }
    }

    private static String readDocument() {
        try {
            return Files.readString(DOCUMENT, StandardCharsets.UTF_8).replaceAll("\\s+", " ");
        } catch (IOException e) {
            return "";
        }
    }

    static void fail(String line) {
        wrong++;
        if (wrong <= 50) {
            System.out.println(line);
        }
    }

    static void end() {
        System.out.println(wrong == 0 ? asked + " answers are as due" : wrong + " of " + asked + " answers are not");
        if (wrong != 0 || asked == 0) {
            System.exit(1);
        }
    }

    /** Of a row that names what is asked: all but its last number, which is due. */
    static String asked(String name, int[] row) {
        StringBuilder text = new StringBuilder(name).append('(');
        for (int i = 0; i < row.length - 1; i++) {
            text.append(i == 0 ? "" : ", ").append(row[i]);
        }
        return text.append(')').toString();
    }

    static int[] numbersOf(String text, int from) {
        int[] numbers = new int[5];
        for (int i = 0; i < 20; i++) {
            char sign = from + i < text.length() ? text.charAt(from + i) : ' ';
            numbers[i / 4] = numbers[i / 4] << 8 | sign & 255;
        }
        return numbers;
    }

    static void feed(LyingDials x, String text) {
        for (int at = 0; at < text.length(); at += 20) {
            int[] n = numbersOf(text, at);
            x.feed(n[0], n[1], n[2], n[3], n[4]);
        }
    }

    static int port(LyingDials x, String text) {
        feed(x, text);
        return x.port(text.length());
    }

    static int law(LyingDials x, String text) {
        feed(x, text);
        return x.law(text.length());
    }

    static LyingDials of(String text) {
        LyingDials x = new LyingDials();
        int fault = port(x, text);
        if (fault != 0) {
            fail("a port's text has fault " + fault + " at " + x.fault() + ": " + text);
        }
        return x;
    }
}
