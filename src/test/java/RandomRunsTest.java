import java.util.ArrayList;
import java.util.List;
import java.util.Random;

/** Long runs of chosen calls, the same ones on the class and on Plain: each answer and each exception is compared. */
public final class RandomRunsTest {
    private static final String[] KINDS = {"east", "west", "bowl", "moon", "cannon", "painted"};
    private static final String[] WORDS = {"dial", "limps", "swing", "cloud", "grown", "east", "sun", "middle", "first",
        "mean", "late", "if", "then", "else", "end", "not", "dark", "month", "before", ";", "-", "(", ")", ",", "0",
        "7", "12345", "1440", "365", "121", "\n", "A", "\t", "dialdial", "\u00e9", "0000", "00000"};
    private static final int[] EDGES = {-1, 0, 1, 364, 365, 719, 720, 721, 1439, 1440, Integer.MAX_VALUE,
        Integer.MIN_VALUE, -120, 120, 121, -121, 9, 512};

    private final Random random;
    private final LyingDials x = new LyingDials();
    private final Plain plain = new Plain();
    private final List<String> calls = new ArrayList<>();
    private int dials = 0;

    private RandomRunsTest(long seed) {
        random = new Random(seed);
    }

    public static void main(String[] args) {
        int runs = args.length > 0 ? Integer.parseInt(args[0]) : 150;
        long seed = args.length > 1 ? Long.parseLong(args[1]) : 1;
        for (int run = 0; run < runs; run++) {
            new RandomRunsTest(seed * 1000003 + run).run(run);
        }
        Kit.end();
    }

    private void run(int run) {
        if (random.nextInt(12) != 0) {
            text(portText(), true);
        }
        for (int i = 0; i < 120; i++) {
            String call = one();
            if (call != null) {
                calls.add(call);
                Kit.fail("run " + run + " call " + i + ": " + call + " after " + calls);
                return;
            }
        }
    }

    private int upTo(int most) {
        return random.nextInt(most + 1);
    }

    private int within(int most) {
        return random.nextInt(6) == 0 ? (random.nextBoolean() ? most : -most) : upTo(2 * most) - most;
    }

    private String portText() {
        StringBuilder text = new StringBuilder();
        List<String> lines = new ArrayList<>();
        int many = random.nextInt(5) == 0 ? 9 : upTo(7);
        int[] days = {upTo(364), upTo(364), 0, 364, 172};
        for (int i = 0; i < many; i++) {
            String grown = random.nextInt(4) == 0 ? " grown " + upTo(364) : "";
            int most = random.nextBoolean() ? 120 : 15;
            lines.add("dial " + KINDS[upTo(5)] + " " + within(most) + " " + within(50) + " " + within(most) + grown);
        }
        if (random.nextBoolean()) {
            StringBuilder limps = new StringBuilder("limps");
            for (int i = 0; i < 12; i++) {
                limps.append(' ').append(within(30));
            }
            lines.add(limps.toString());
        }
        if (random.nextBoolean()) {
            lines.add("swing " + (random.nextInt(4) == 0 ? 240 : upTo(240)));
        }
        int some = random.nextInt(4) == 0 ? 20 : upTo(4);
        for (int i = 0; i < some; i++) {
            int from = upTo(1439);
            int to = Math.min(1439, from + upTo(random.nextBoolean() ? 60 : 1439));
            lines.add("cloud " + days[upTo(4)] + " " + from + " " + to);
        }
        java.util.Collections.shuffle(lines, random);
        for (String line : lines) {
            if (text.length() + line.length() + 1 <= 690) {
                text.append(line).append(random.nextInt(9) == 0 ? " \n; " : ";");
            }
        }
        return text.toString();
    }

    private String dialNumber() {
        return Integer.toString(random.nextInt(40) == 0 ? upTo(10) : upTo(Math.max(0, dials - 1)));
    }

    private String time(int depth) {
        switch (depth > 13 ? 0 : depth > 3 ? upTo(2) : upTo(6)) {
            case 2: {
                StringBuilder text = new StringBuilder("middle(" + dialNumber());
                for (int i = upTo(4); i > 0; i--) {
                    text.append(',').append(dialNumber());
                }
                return text + ")";
            }
            case 3: {
                StringBuilder text = new StringBuilder("first(" + time(depth + 1));
                for (int i = upTo(2); i > 0; i--) {
                    text.append(", ").append(time(depth + 1));
                }
                return text + ")";
            }
            case 4: return "mean(" + time(depth + 1) + "," + time(depth + 1) + ")";
            case 5: return "late " + within(random.nextBoolean() ? 720 : 20) + " " + time(depth + 1);
            case 6: return "if " + test(depth + 1) + " then " + time(depth + 1) + " else " + time(depth + 1) + " end";
            default: return "dial " + dialNumber();
        }
    }

    private String test(int depth) {
        switch (depth > 3 ? 2 : upTo(3)) {
            case 0: return "not " + test(depth + 1);
            case 1: return "dark " + time(depth + 1);
            case 2: return "month " + upTo(11);
            default: return "before(" + time(depth + 1) + "," + time(depth + 1) + ")";
        }
    }

    private String deepLaw() {
        StringBuilder text = new StringBuilder();
        for (int i = upTo(14); i > 0; i--) {
            text.append("late ").append(within(3)).append(' ');
        }
        if (random.nextBoolean()) {
            text.append("if ");
            for (int i = upTo(12); i > 0; i--) {
                text.append("not ");
            }
            return text + "month 3 then dial 0 else dial 0 end";
        }
        return text + (random.nextBoolean() ? "dial 0" : random.nextBoolean() ? "sun" : "(");
    }

    private String spoilt(String text) {
        StringBuilder s = new StringBuilder(text);
        int at = upTo(s.length());
        switch (upTo(3)) {
            case 0: s.setLength(at); break;
            case 1: s.insert(at, WORDS[upTo(WORDS.length - 1)]); break;
            case 2: s.insert(at, " " + WORDS[upTo(WORDS.length - 1)] + " "); break;
            default: s.delete(at, Math.min(s.length(), at + 1 + upTo(3))); break;
        }
        return s.toString();
    }

    private String anyText(boolean port) {
        String text = port ? portText() : random.nextInt(5) == 0 ? deepLaw() : time(0);
        for (int i = random.nextInt(3) == 0 ? upTo(2) : 0; i > 0; i--) {
            text = spoilt(text);
        }
        return text.length() > 700 ? text.substring(0, 700) : text;
    }

    private String text(String text, boolean port) {
        for (int at = 0; at < text.length(); at += 20) {
            int[] n = Kit.numbersOf(text, at);
            String bad = compare("feed(..)", () -> x.feed(n[0], n[1], n[2], n[3], n[4]), () -> plain.feed(n));
            if (bad != null) {
                return bad;
            }
        }
        int n = text.length();
        String bad = compare((port ? "port" : "law") + "('" + text + "')", () -> port ? x.port(n) : x.law(n),
                () -> port ? plain.port(n) : plain.law(n));
        dials = x.count(0);
        return bad != null ? bad : compare("fault()", x::fault, plain::fault);
    }

    private static String answer(Kit.Call call) {
        try {
            return Long.toString(call.answer());
        } catch (RuntimeException e) {
            return "throws." + e.getClass().getSimpleName();
        }
    }

    private String compare(String name, Kit.Call ours, Kit.Call theirs) {
        String got = answer(ours);
        String want = answer(theirs);
        calls.add(name + "=" + got);
        Kit.same(name, want, got);
        return got.equals(want) ? null : name;
    }

    private int any(int most) {
        return random.nextInt(60) == 0 ? EDGES[upTo(EDGES.length - 1)] : upTo(Math.max(0, most));
    }

    private int aDial() {
        return any(dials - 1);
    }

    private int aMinute() {
        return random.nextInt(3) == 0 ? any(1439) : any(1439) / 15 * 15;
    }

    /** Such that something is often told then. */
    private int nearNoon() {
        return random.nextInt(4) == 0 ? aMinute() : 720 + within(60);
    }

    private String one() {
        int a = aDial();
        int b = aDial();
        int day = random.nextInt(5) == 0 ? any(364) : random.nextInt(5) * 91;
        int minute = random.nextBoolean() ? aMinute() : nearNoon();
        int what = any(4) % 3;
        String two = "(" + a + "," + b + ")";
        switch (upTo(41)) {
            case 0: return random.nextInt(6) == 0 ? text(anyText(true), true) : null;
            case 1: case 2: return text(anyText(false), false);
            case 3: case 4: return compare("lawful" + day + "," + minute, () -> x.lawful(day, minute),
                    () -> plain.lawful(day, minute));
            case 5: case 6: {
                int w = any(4);
                return compare("judged" + minute + "," + w, () -> x.judged(minute, w), () -> plain.judged(minute, w));
            }
            case 7: {
                int w = any(32);
                return compare("count" + w, () -> x.count(w), () -> plain.count(w));
            }
            case 8: {
                int w = any(5);
                return compare("dial" + a + "," + w, () -> x.dial(a, w), () -> plain.dial(a, w));
            }
            case 9: return compare("day" + day + "," + what, () -> x.day(day, what), () -> plain.day(day, what));
            case 10: case 11: return compare("tells" + a + "," + day + "," + minute, () -> x.tells(a, day, minute),
                    () -> plain.tells(a, day, minute));
            case 12: return compare("turn" + a + "," + day, () -> x.turn(a, day), () -> plain.turn(a, day));
            case 13: case 14: case 15: return reading(a, day, minute);
            case 16: return random.nextInt(2) == 0 ? compare("unread", x::unread, plain::unread) : null;
            case 17: case 18: {
                int w = any(5);
                return compare("faults" + a + "," + w, () -> x.faults(a, w), () -> plain.faults(a, w));
            }
            case 19: return compare("next" + a + "," + day + "," + what % 2, () -> x.next(a, day, what),
                    () -> plain.next(a, day, what));
            case 20: case 21: return seeing(day, minute);
            case 22: return compare("forget", x::forget, plain::forget);
            case 23: case 24: return compare("minutes" + day + "," + what, () -> x.minutes(day, what),
                    () -> plain.minutes(day, what));
            case 25: return compare("days" + what, () -> x.days(what), () -> plain.days(what));
            case 26: case 27: return compare("late" + two + minute + "," + day, () -> x.late(a, b, minute, day),
                    () -> plain.late(a, b, minute, day));
            case 28: return compare("meet" + two + minute + "," + day + "," + what,
                    () -> x.meet(a, b, minute, day, what), () -> plain.meet(a, b, minute, day, what));
            case 29: case 30: case 31: {
                int turn = random.nextInt(20) == 0 ? any(121) : within(120);
                return compare("mend" + a + "," + day + "," + turn, () -> x.mend(a, day, turn),
                        () -> plain.mend(a, day, turn));
            }
            case 32: return compare("undo", x::undo, plain::undo);
            case 33: {
                int within = random.nextBoolean() ? any(121) : upTo(8);
                return compare("best" + a + "," + minute + "," + within + "," + what,
                        () -> x.best(a, minute, within, what), () -> plain.best(a, minute, within, what));
            }
            case 34: return compare("year" + a + "," + minute + "," + what, () -> x.year(a, minute, what),
                    () -> plain.year(a, minute, what));
            case 35: return compare("live" + minute, () -> x.live(minute), () -> plain.live(minute));
            case 36: case 37: {
                int bits = any((1 << dials) - 1);
                return compare("middle" + bits + "," + day + "," + minute, () -> x.middle(bits, day, minute),
                        () -> plain.middle(bits, day, minute));
            }
            case 38: return compare("together" + day + "," + what, () -> x.together(day, what),
                    () -> plain.together(day, what));
            case 39: return compare("takes" + a + "," + day, () -> x.takes(a, day), () -> plain.takes(a, day));
            case 40: {
                x.image();
                plain.image();
                return null;
            }
            default: return compare("restore", () -> x.restore() ? 1 : 0, () -> plain.restore() ? 1 : 0);
        }
    }

    /** Mostly what some turn and tilt within the fitting ones would tell, so that some couples fit. */
    private String reading(int dial, int day, int minute) {
        int told = random.nextInt(4) == 0 ? aMinute() : answerOr(dial, day, minute, 720);
        return compare("read" + dial + "," + day + "," + minute + "," + told, () -> x.read(dial, day, minute, told),
                () -> plain.read(dial, day, minute, told));
    }

    private int answerOr(int dial, int day, int minute, int other) {
        String told = answer(() -> x.tells(dial, day, minute));
        return told.startsWith("t") || told.equals("-1") ? other : Integer.parseInt(told);
    }

    private String seeing(int day, int minute) {
        String bad = null;
        for (int i = 1 + upTo(2); i > 0 && bad == null; i--) {
            int dial = aDial();
            int told = random.nextInt(5) == 0 ? aMinute() : answerOr(dial, day, minute, 720);
            bad = compare("see" + dial + "," + told, () -> x.see(dial, told), () -> plain.see(dial, told));
        }
        return bad;
    }
}
