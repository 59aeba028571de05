import java.util.ArrayList;
import java.util.Arrays;
import java.util.List;
import java.util.NoSuchElementException;
import java.util.function.IntBinaryOperator;
import java.util.regex.Matcher;
import java.util.regex.Pattern;

/**
 * The document once more, by its words alone and in the dearest way: every minute and every couple is tried. The
 * class is compared with it, so nothing here is borrowed from there.
 */
final class Plain {
    static final int DARK = -1;

    record Dial(int kind, int turn, int tilt, int town, int grown) { }
    record Cloud(int day, int from, int to) { }
    record Reading(int dial, int day, int minute, int told) { }
    record Seen(int dial, int told) { }
    record Mend(int dial, int day, int turn) { }
    record Token(String text, int at) { }

    @SuppressWarnings("serial")
    static final class Fault extends RuntimeException {
        final int kind;
        final int at;

        Fault(int kind, Token token) {
            this.kind = kind;
            this.at = token.at();
        }
    }

    private StringBuilder tape = new StringBuilder();
    private List<Dial> dials = new ArrayList<>();
    private List<Cloud> clouds = new ArrayList<>();
    private int[] limps = new int[12];
    private int swing = 120;
    private IntBinaryOperator law = null;
    private List<Reading> readings = new ArrayList<>();
    private List<Seen> seen = new ArrayList<>();
    private List<Mend> mends = new ArrayList<>();
    private List<List<?>> image = null;
    private final int[] status = new int[4];
    private int place = -1;

    // ---- texts

    private static final Pattern TOKEN = Pattern.compile("[a-z]+|[0-9]+|[^ \n]", Pattern.DOTALL);

    private static List<Token> tokens(String text) {
        List<Token> list = new ArrayList<>();
        Matcher m = TOKEN.matcher(text);
        while (m.find()) {
            list.add(new Token(m.group(), m.start()));
        }
        list.add(new Token("", text.length()));
        return list;
    }

    private List<Token> row;
    private int here;

    private Token now() {
        return row.get(here);
    }

    private boolean is(String text) {
        return now().text().equals(text);
    }

    private void must(String text) {
        if (!is(text)) {
            throw new Fault(1, now());
        }
        here++;
    }

    private int number(boolean signed, int least, int most) {
        int sign = 1;
        if (signed && is("-")) {
            sign = -1;
            here++;
        }
        Token token = now();
        if (!token.text().matches("[0-9]+")) {
            throw new Fault(1, token);
        }
        if (token.text().length() > 4) {
            throw new Fault(2, token);
        }
        int value = sign * Integer.parseInt(token.text());
        if (value < least || value > most) {
            throw new Fault(2, token);
        }
        here++;
        return value;
    }

    int feed(int... numbers) {
        if (tape.length() + 20 > 700) {
            return -1;
        }
        for (int number : numbers) {
            for (int i = 3; i >= 0; i--) {
                tape.append((char) (number >>> 8 * i & 255));
            }
        }
        return tape.length();
    }

    private String takeTape(int n) {
        if (n < 0 || n > tape.length()) {
            throw new IllegalArgumentException();
        }
        String text = tape.substring(0, n);
        tape = new StringBuilder();
        return text;
    }

    int port(int n) {
        row = tokens(takeTape(n));
        here = 0;
        List<Dial> newDials = new ArrayList<>();
        List<Cloud> newClouds = new ArrayList<>();
        int[][] newLimps = new int[1][];
        Integer[] newSwing = new Integer[1];
        try {
            while (!is("")) {
                line(newDials, newClouds, newLimps, newSwing);
            }
        } catch (Fault fault) {
            return refused(fault);
        }
        dials = newDials;
        clouds = newClouds;
        limps = newLimps[0] == null ? new int[12] : newLimps[0];
        swing = newSwing[0] == null ? 120 : newSwing[0];
        readings = new ArrayList<>();
        seen = new ArrayList<>();
        mends = new ArrayList<>();
        image = null;
        law = null;
        place = -1;
        return 0;
    }

    private int refused(Fault fault) {
        status[0]++;
        place = fault.at;
        return fault.kind;
    }

    private void line(List<Dial> newDials, List<Cloud> newClouds, int[][] newLimps, Integer[] newSwing) {
        Token first = now();
        here++;
        switch (first.text()) {
            case "dial" -> {
                if (newDials.size() == 9) {
                    throw new Fault(2, first);
                }
                int kind = List.of("east", "west", "bowl", "moon", "cannon", "painted").indexOf(now().text());
                if (kind < 0) {
                    throw new Fault(1, now());
                }
                here++;
                int turn = number(true, -120, 120);
                int tilt = number(true, -50, 50);
                int town = number(true, -120, 120);
                int grown = -1;
                if (is("grown")) {
                    here++;
                    grown = number(false, 0, 364);
                }
                newDials.add(new Dial(kind, turn, tilt, town, grown));
            }
            case "limps" -> {
                if (newLimps[0] != null) {
                    throw new Fault(3, first);
                }
                newLimps[0] = new int[12];
                for (int i = 0; i < 12; i++) {
                    newLimps[0][i] = number(true, -30, 30);
                }
            }
            case "swing" -> {
                if (newSwing[0] != null) {
                    throw new Fault(3, first);
                }
                newSwing[0] = number(false, 0, 240);
            }
            case "cloud" -> {
                if (newClouds.size() == 20) {
                    throw new Fault(2, first);
                }
                int day = number(false, 0, 364);
                int from = number(false, 0, 1439);
                newClouds.add(new Cloud(day, from, number(false, from, 1439)));
            }
            default -> throw new Fault(1, first);
        }
        must(";");
    }

    int law(int n) {
        row = tokens(takeTape(n));
        here = 0;
        try {
            IntBinaryOperator time = time(0);
            must("");
            law = time;
        } catch (Fault fault) {
            return refused(fault);
        }
        place = -1;
        return 0;
    }

    private String beginning(int others) {
        Token token = now();
        if (!token.text().matches("[a-z]+")) {
            throw new Fault(1, token);
        }
        if (others >= 12) {
            throw new Fault(2, token);
        }
        here++;
        return token.text();
    }

    private IntBinaryOperator time(int others) {
        Token first = now();
        switch (beginning(others)) {
            case "dial": {
                int dial = number(false, 0, dials.size() - 1);
                return (day, minute) -> told(dial, day, minute);
            }
            case "middle":
                return middleTime();
            case "first":
                return firstTime(others);
            case "mean": {
                must("(");
                IntBinaryOperator a = time(others + 1);
                must(",");
                IntBinaryOperator b = time(others + 1);
                must(")");
                return (day, minute) -> {
                    int one = a.applyAsInt(day, minute);
                    int two = b.applyAsInt(day, minute);
                    return one == DARK || two == DARK ? DARK : (one + two) / 2;
                };
            }
            case "late": {
                int by = number(true, -720, 720);
                IntBinaryOperator a = time(others + 1);
                return (day, minute) -> {
                    int one = a.applyAsInt(day, minute);
                    return one == DARK ? DARK : Math.floorMod(one + by, 1440);
                };
            }
            case "if": {
                IntBinaryOperator test = test(others + 1);
                must("then");
                IntBinaryOperator a = time(others + 1);
                must("else");
                IntBinaryOperator b = time(others + 1);
                must("end");
                return (day, minute) -> (test.applyAsInt(day, minute) == 1 ? a : b).applyAsInt(day, minute);
            }
            default:
                throw new Fault(4, first);
        }
    }

    private IntBinaryOperator middleTime() {
        List<Integer> some = new ArrayList<>();
        must("(");
        do {
            if (!some.isEmpty()) {
                here++;
            }
            Token token = now();
            int dial = number(false, 0, dials.size() - 1);
            if (some.contains(dial)) {
                throw new Fault(3, token);
            }
            some.add(dial);
        } while (is(","));
        must(")");
        return (day, minute) -> middleOf(some, day, minute);
    }

    private IntBinaryOperator firstTime(int others) {
        List<IntBinaryOperator> some = new ArrayList<>();
        must("(");
        some.add(time(others + 1));
        while (is(",")) {
            here++;
            some.add(time(others + 1));
        }
        must(")");
        return (day, minute) -> some.stream().mapToInt(t -> t.applyAsInt(day, minute))
                .filter(t -> t != DARK).findFirst().orElse(DARK);
    }

    private IntBinaryOperator test(int others) {
        Token first = now();
        switch (beginning(others)) {
            case "not": {
                IntBinaryOperator a = test(others + 1);
                return (day, minute) -> 1 - a.applyAsInt(day, minute);
            }
            case "dark": {
                IntBinaryOperator a = time(others + 1);
                return (day, minute) -> a.applyAsInt(day, minute) == DARK ? 1 : 0;
            }
            case "month": {
                int month = number(false, 0, 11);
                return (day, minute) -> day / 31 == month ? 1 : 0;
            }
            case "before": {
                must("(");
                IntBinaryOperator a = time(others + 1);
                must(",");
                IntBinaryOperator b = time(others + 1);
                must(")");
                return (day, minute) -> {
                    int one = a.applyAsInt(day, minute);
                    int two = b.applyAsInt(day, minute);
                    return one != DARK && two != DARK && one < two ? 1 : 0;
                };
            }
            default:
                throw new Fault(4, first);
        }
    }

    // ---- what is told

    private int noon(int day) {
        return 720 + limps[day / 31];
    }

    private int half(int day) {
        int far = day > 172 ? day - 172 : 172 - day;
        if (far > 182) {
            far = 365 - far;
        }
        double light = swing * (91.0 - far) / 91.0;
        return 360 + (int) light;
    }

    private boolean byDay(int day, int minute) {
        return minute >= noon(day) - half(day) && minute <= noon(day) + half(day);
    }

    private boolean sun(int day, int minute) {
        for (Cloud c : clouds) {
            if (c.day == day && c.from <= minute && minute <= c.to) {
                return false;
            }
        }
        return byDay(day, minute);
    }

    private static int round(int minutes) {
        return ((minutes % 1440) + 1440) % 1440;
    }

    private int told(int dial, int day, int minute) {
        return told(dial, day, minute, turnOn(dial, day), dials.get(dial).tilt);
    }

    private int turnOn(int dial, int day) {
        int turn = dials.get(dial).turn;
        for (Mend mend : mends) {
            if (mend.dial == dial && mend.day <= day) {
                turn = mend.turn;
            }
        }
        return turn;
    }

    private int told(int number, int day, int minute, int turn, int tilt) {
        Dial dial = dials.get(number);
        if (dial.kind == 5) {
            return round(720 + turn + dial.town);
        }
        if (dial.grown >= 0 && day >= dial.grown) {
            return DARK;
        }
        int angle = minute - noon(day);
        if (dial.kind == 3) {
            int age = day % 30;
            if (age < 8 || age > 22 || byDay(day, minute)) {
                return DARK;
            }
            angle = minute - (720 + 48 * age);
            while (angle < -720) {
                angle += 1440;
            }
            while (angle > 719) {
                angle -= 1440;
            }
            if (angle < -360 || angle > 360) {
                return DARK;
            }
        } else if (!sun(day, minute) || dial.kind == 0 && angle > 0 || dial.kind == 1 && angle < 0) {
            return DARK;
        }
        int by = dial.kind == 2 || dial.kind == 4 ? 100 : 100 + tilt;
        int size = Math.abs(angle) * by / 100;
        int told = round(720 + (angle < 0 ? -size : size) + turn + dial.town);
        return dial.kind == 4 && told != 720 ? DARK : told;
    }

    private static int wrong(int told, int minute) {
        return Math.min(round(told - minute), round(minute - told));
    }

    // ---- calls

    private void none(boolean bad) {
        if (bad) {
            throw new NoSuchElementException();
        }
    }

    private void illegal(boolean bad) {
        if (bad) {
            throw new IllegalArgumentException();
        }
    }

    private boolean noDial(int dial) {
        return dial < 0 || dial >= dials.size();
    }

    private static boolean out(int number, int most) {
        return number < 0 || number > most;
    }

    int lawful(int day, int minute) {
        none(out(day, 364) || out(minute, 1439));
        illegal(law == null);
        return law.applyAsInt(day, minute);
    }

    int judged(int minute, int what) {
        none(out(minute, 1439) || out(what, 3));
        illegal(law == null);
        int[] answers = {0, 0, -1, 0};
        int worst = -1;
        for (int day = 0; day < 365; day++) {
            int told = law.applyAsInt(day, minute);
            int by = told == DARK ? 9999 : wrong(told, minute);
            if (told != DARK) {
                answers[0]++;
                answers[1] += by;
                if (by > worst) {
                    worst = by;
                    answers[2] = day;
                }
            }
            boolean unbeaten = true;
            for (int dial = 0; dial < dials.size(); dial++) {
                int other = told(dial, day, minute);
                unbeaten &= other == DARK || wrong(other, minute) >= by;
            }
            answers[3] += unbeaten ? 1 : 0;
        }
        return answers[what];
    }

    int fault() {
        return place;
    }

    int count(int what) {
        none(what < 0 || what > 10 && what < 20 || what > 31);
        if (what >= 20) {
            return limps[what - 20];
        }
        int[] counts = {dials.size(), swing, clouds.size(), readings.size(), seen.size(), mends.size(),
            tape.length(), status[0], status[1], status[2], status[3]};
        return counts[what];
    }

    int dial(int dial, int what) {
        none(noDial(dial) || out(what, 4));
        Dial d = dials.get(dial);
        return new int[] {d.kind, d.turn, d.tilt, d.town, d.grown}[what];
    }

    int day(int day, int what) {
        none(out(day, 364) || out(what, 1));
        return what == 0 ? noon(day) : half(day);
    }

    int tells(int dial, int day, int minute) {
        none(noDial(dial) || out(day, 364) || out(minute, 1439));
        return told(dial, day, minute);
    }

    int turn(int dial, int day) {
        none(noDial(dial) || out(day, 364));
        return turnOn(dial, day);
    }

    int read(int dial, int day, int minute, int told) {
        none(noDial(dial) || out(day, 364) || out(minute, 1439) || out(told, 1439));
        if (readings.size() == 12) {
            status[1]++;
            return -1;
        }
        readings.add(new Reading(dial, day, minute, told));
        return readings.size();
    }

    int unread() {
        if (readings.isEmpty()) {
            return -1;
        }
        readings.remove(readings.size() - 1);
        return readings.size();
    }

    private List<int[]> couples(int dial) {
        List<int[]> list = new ArrayList<>();
        for (int turn = -60; turn <= 60; turn++) {
            for (int tilt = -20; tilt <= 20; tilt++) {
                boolean fits = true;
                for (Reading r : readings) {
                    fits &= r.dial != dial || told(dial, r.day, r.minute, turn, tilt) == r.told;
                }
                if (fits) {
                    list.add(new int[] {turn, tilt});
                }
            }
        }
        return list;
    }

    int faults(int dial, int what) {
        none(noDial(dial) || out(what, 4));
        List<int[]> list = couples(dial);
        if (what == 0) {
            return list.size();
        }
        illegal(list.isEmpty());
        int[] values = list.stream().mapToInt(c -> c[what <= 2 ? 0 : 1]).sorted().toArray();
        return what % 2 == 1 ? values[0] : values[values.length - 1];
    }

    int next(int dial, int day, int what) {
        none(noDial(dial) || out(day, 364) || out(what, 1));
        List<int[]> list = couples(dial);
        if (list.isEmpty()) {
            return -1;
        }
        int least = Integer.MAX_VALUE;
        int at = -1;
        for (int minute = 0; minute < 1440; minute += 15) {
            int[] groups = new int[1441];
            for (int[] couple : list) {
                groups[1 + told(dial, day, minute, couple[0], couple[1])]++;
            }
            int greatest = Arrays.stream(groups).max().getAsInt();
            if (greatest < least) {
                least = greatest;
                at = minute;
            }
        }
        return what == 0 ? at : least;
    }

    int see(int dial, int told) {
        none(noDial(dial) || out(told, 1439));
        if (seen.stream().anyMatch(s -> s.dial == dial)) {
            status[2]++;
            return -1;
        }
        seen.add(new Seen(dial, told));
        return seen.size();
    }

    int forget() {
        int were = seen.size();
        seen.clear();
        return were;
    }

    private boolean fits(int day, int minute) {
        for (Seen s : seen) {
            if (told(s.dial, day, minute) != s.told) {
                return false;
            }
        }
        return true;
    }

    int minutes(int day, int what) {
        none(out(day, 364) || out(what, 2));
        int[] answers = {0, -1, -1};
        for (int minute = 0; minute < 1440; minute++) {
            if (fits(day, minute)) {
                answers[0]++;
                answers[1] = answers[1] < 0 ? minute : answers[1];
                answers[2] = minute;
            }
        }
        return answers[what];
    }

    int days(int what) {
        none(out(what, 2));
        int[] answers = {0, -1, -1};
        for (int day = 0; day < 365; day++) {
            for (int minute = 0; minute < 1440; minute++) {
                if (fits(day, minute)) {
                    if (answers[0] == 0) {
                        answers[1] = day;
                        answers[2] = minute;
                    }
                    answers[0]++;
                }
            }
        }
        return answers[what];
    }

    private int comes(int dial, int x, int day) {
        for (int minute = 0; minute < 1440; minute++) {
            if (told(dial, day, minute) == x) {
                return minute;
            }
        }
        return -1;
    }

    int late(int a, int b, int x, int day) {
        none(noDial(a) || noDial(b) || out(x, 1439) || out(day, 364));
        int one = comes(a, x, day);
        int two = comes(b, x, day);
        return one < 0 || two < 0 ? -1 : Math.abs(one - two);
    }

    int meet(int a, int b, int x, int day, int what) {
        none(noDial(a) || noDial(b) || out(x, 1439) || out(day, 364) || out(what, 1));
        int first = -1;
        int nearest = -1;
        int least = Integer.MAX_VALUE;
        for (int on = day; on <= 364; on++) {
            int late = late(a, b, x, on);
            if (late >= 0) {
                first = first < 0 ? on : first;
                if (late < least) {
                    least = late;
                    nearest = on;
                }
            }
        }
        return what == 0 ? first : nearest;
    }

    int mend(int dial, int day, int turn) {
        none(noDial(dial) || out(day, 364));
        if (mends.size() == 40 || dials.get(dial).kind == 5 || turn < -120 || turn > 120) {
            status[3]++;
            return -1;
        }
        mends.add(new Mend(dial, day, turn));
        return mends.size();
    }

    int undo() {
        if (mends.isEmpty()) {
            return -1;
        }
        mends.remove(mends.size() - 1);
        return mends.size();
    }

    int best(int dial, int minute, int within, int what) {
        none(noDial(dial) || out(minute, 1439) || out(what, 1));
        illegal(out(within, 120) || dials.get(dial).kind == 5);
        Dial d = dials.get(dial);
        int most = -1;
        int chosen = 0;
        for (int turn = -120; turn <= 120; turn++) {
            int right = 0;
            for (int day = 0; day < 365; day++) {
                int told = told(dial, day, minute, turn, d.tilt);
                right += told != DARK && wrong(told, minute) <= within ? 1 : 0;
            }
            if (right > most || right == most && Math.abs(turn - d.turn) < Math.abs(chosen - d.turn)) {
                most = right;
                chosen = turn;
            }
        }
        return what == 0 ? chosen : most;
    }

    int year(int dial, int minute, int what) {
        none(noDial(dial) || out(minute, 1439) || out(what, 1));
        int lit = 0;
        int by = 0;
        for (int day = 0; day < 365; day++) {
            int told = told(dial, day, minute);
            if (told != DARK) {
                lit++;
                by += wrong(told, minute);
            }
        }
        return what == 0 ? lit : by;
    }

    int live(int minute) {
        none(out(minute, 1439));
        int chosen = -1;
        for (int dial = 0; dial < dials.size(); dial++) {
            if (chosen < 0 || year(dial, minute, 0) > year(chosen, minute, 0)
                    || year(dial, minute, 0) == year(chosen, minute, 0)
                    && year(dial, minute, 1) < year(chosen, minute, 1)) {
                chosen = dial;
            }
        }
        return chosen;
    }

    private int middleOf(List<Integer> some, int day, int minute) {
        int[] told = some.stream().mapToInt(d -> told(d, day, minute)).filter(t -> t != DARK).sorted().toArray();
        return told.length == 0 ? DARK : told[told.length / 2];
    }

    int middle(int bits, int day, int minute) {
        none(out(day, 364) || out(minute, 1439));
        List<Integer> some = new ArrayList<>();
        for (int i = 0; i < 32; i++) {
            if ((bits >>> i & 1) == 1) {
                illegal(noDial(i));
                some.add(i);
            }
        }
        return middleOf(some, day, minute);
    }

    int together(int day, int what) {
        none(out(day, 364) || out(what, 1));
        int most = -1;
        int pair = -1;
        for (int a = 0; a < dials.size(); a++) {
            for (int b = a + 1; b < dials.size(); b++) {
                int both = 0;
                for (int minute = 0; minute < 1440; minute++) {
                    both += told(a, day, minute) != DARK && told(b, day, minute) != DARK ? 1 : 0;
                }
                if (both > most) {
                    most = both;
                    pair = 10 * a + b;
                }
            }
        }
        return what == 0 ? pair : Math.max(0, most);
    }

    int takes(int dial, int day) {
        none(noDial(dial) || out(day, 364));
        if (dials.get(dial).kind == 5) {
            return 0;
        }
        int taken = 0;
        for (int on = day; on < 365; on++) {
            for (int minute = 0; minute < 1440; minute++) {
                taken += told(dial, on, minute) != DARK ? 1 : 0;
            }
        }
        return taken;
    }

    void image() {
        image = List.of(List.copyOf(readings), List.copyOf(seen), List.copyOf(mends));
    }

    @SuppressWarnings("unchecked")
    boolean restore() {
        if (image == null) {
            return false;
        }
        readings = new ArrayList<>((List<Reading>) image.get(0));
        seen = new ArrayList<>((List<Seen>) image.get(1));
        mends = new ArrayList<>((List<Mend>) image.get(2));
        return true;
    }
}
