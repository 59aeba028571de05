import java.util.ArrayList;
import java.util.Arrays;
import java.util.List;

/** The promises' own sentences: arguments at their ends and past them, refused calls, empty and full tapes, images. */
public final class CallEdgesTest {
    private static final int MIN = Integer.MIN_VALUE;
    private static final int MAX = Integer.MAX_VALUE;
    private static final int[] DIAL = {0, 2};
    private static final int[] DAY = {0, 364};
    private static final int[] MINUTE = {0, 1439};
    /** Numbers that no promise refuses by NoSuchElementException. */
    private static final int[] ANY = null;
    private static final String THREE = "swing 0;dial bowl 5 0 0;dial west 0 0 0;dial moon 0 0 0;";
    private static final int BLANKS = 0x20202020;

    private interface Row {
        int answer(LyingDials x, int[] a);
    }

    private CallEdgesTest() {
    }

    public static void main(String[] args) {
        noSuchArguments();
        aNewObject();
        noneIsOneAnswer();
        aFullTape();
        bytesOfANumber();
        tapeOfAPort();
        portWithAFault();
        portAllAnew();
        portAfterPort();
        placesOfFaults();
        otherCounts();
        refusedCalls();
        growthOfDials();
        noImage();
        imageOfNothing();
        imageInPlaceOfAnother();
        imageOfAllThatCanBe();
        imageAndPorts();
        aLongLife();
        Kit.end();
    }

    private static LyingDials three() {
        LyingDials x = Kit.of(THREE);
        Kit.law(x, "dial 0");
        x.read(0, 0, 720, 727);
        x.read(1, 0, 720, 720);
        x.see(2, 720);
        x.mend(0, 100, 9);
        return x;
    }

    /** What can be asked of an object, as one text. */
    private static String stateOf(LyingDials x) {
        List<Integer> state = new ArrayList<>();
        for (int what = 0; what <= 10; what++) {
            state.add(x.count(what));
        }
        state.add(x.fault());
        for (int dial = 0; dial < x.count(0); dial++) {
            state.add(x.dial(dial, 1));
            state.add(x.turn(dial, 20));
            state.add(x.turn(dial, 364));
            state.add(x.faults(dial, 0));
            state.add(x.faults(dial, 0) == 0 ? 0 : x.faults(dial, 1));
        }
        state.add(x.days(0));
        state.add(x.days(1));
        return state.toString();
    }

    private static String thrownBy(LyingDials x, Row row, int[] a) {
        try {
            row.answer(x, a);
            return "nothing";
        } catch (RuntimeException e) {
            return e.getClass().getSimpleName();
        }
    }

    /** Each argument in turn at both ends of what there is, and past them, the others being good. */
    private static void ends(String name, Row row, int[][] ranges, int... good) {
        for (int i = 0; i < ranges.length; i++) {
            if (ranges[i] == ANY) {
                continue;
            }
            for (int value : new int[] {ranges[i][0], ranges[i][1]}) {
                int[] a = good.clone();
                a[i] = value;
                Kit.same(name + Arrays.toString(a) + " throws", "nothing", thrownBy(three(), row, a));
            }
            for (int value : new int[] {ranges[i][0] - 1, ranges[i][1] + 1, MIN, MAX}) {
                int[] a = good.clone();
                a[i] = value;
                LyingDials x = three();
                String was = stateOf(x);
                Kit.same(name + Arrays.toString(a) + " throws", "NoSuchElementException", thrownBy(x, row, a));
                Kit.same(name + Arrays.toString(a) + " changes nothing", was, stateOf(x));
            }
        }
    }

    private static int[] what(int most) {
        return new int[] {0, most};
    }

    private static void noSuchArguments() {
        Kit.says("NoSuchElementException: no such DIAL (as everywhere), what.");
        Kit.says("NoSuchElementException: no such DAY (as everywhere), another what.");
        Kit.says("NoSuchElementException: also no such MINUTE (as everywhere).");
        Kit.says("NoSuchElementException: also another what.");
        Kit.says("NoSuchElementException: another what.");
        ends("lawful", (x, a) -> x.lawful(a[0], a[1]), new int[][] {DAY, MINUTE}, 5, 700);
        ends("judged", (x, a) -> x.judged(a[0], a[1]), new int[][] {MINUTE, what(3)}, 700, 1);
        ends("dial", (x, a) -> x.dial(a[0], a[1]), new int[][] {DIAL, what(4)}, 1, 1);
        ends("day", (x, a) -> x.day(a[0], a[1]), new int[][] {DAY, what(1)}, 5, 0);
        ends("tells", (x, a) -> x.tells(a[0], a[1], a[2]), new int[][] {DIAL, DAY, MINUTE}, 1, 5, 700);
        ends("turn", (x, a) -> x.turn(a[0], a[1]), new int[][] {DIAL, DAY}, 1, 5);
        ends("read", (x, a) -> x.read(a[0], a[1], a[2], a[3]), new int[][] {DIAL, DAY, MINUTE, MINUTE}, 1, 5, 7, 9);
        ends("faults", (x, a) -> x.faults(a[0], a[1]), new int[][] {DIAL, what(4)}, 1, 1);
        ends("next", (x, a) -> x.next(a[0], a[1], a[2]), new int[][] {DIAL, DAY, what(1)}, 1, 5, 0);
        ends("see", (x, a) -> x.see(a[0], a[1]), new int[][] {DIAL, MINUTE}, 1, 700);
        ends("minutes", (x, a) -> x.minutes(a[0], a[1]), new int[][] {DAY, what(2)}, 5, 1);
        ends("days", (x, a) -> x.days(a[0]), new int[][] {what(2)}, 0);
        ends("late", (x, a) -> x.late(a[0], a[1], a[2], a[3]), new int[][] {DIAL, DIAL, MINUTE, DAY}, 0, 1, 800, 5);
        ends("meet", (x, a) -> x.meet(a[0], a[1], a[2], a[3], a[4]),
                new int[][] {DIAL, DIAL, MINUTE, DAY, what(1)}, 0, 1, 800, 5, 0);
        ends("mend", (x, a) -> x.mend(a[0], a[1], a[2]), new int[][] {DIAL, DAY, ANY}, 1, 5, 7);
        ends("best", (x, a) -> x.best(a[0], a[1], a[2], a[3]), new int[][] {DIAL, MINUTE, ANY, what(1)}, 1, 700, 5, 0);
        ends("year", (x, a) -> x.year(a[0], a[1], a[2]), new int[][] {DIAL, MINUTE, what(1)}, 1, 700, 0);
        ends("live", (x, a) -> x.live(a[0]), new int[][] {MINUTE}, 700);
        ends("middle", (x, a) -> x.middle(a[0], a[1], a[2]), new int[][] {ANY, DAY, MINUTE}, 7, 5, 700);
        ends("together", (x, a) -> x.together(a[0], a[1]), new int[][] {DAY, what(1)}, 5, 0);
        ends("takes", (x, a) -> x.takes(a[0], a[1]), new int[][] {DIAL, DAY}, 1, 5);
    }

    private static void aNewObject() {
        Kit.says("`LyingDials()`: No DIALS.");
        LyingDials x = new LyingDials();
        Kit.same("all of it", "[0, 120, 0, 0, 0, 0, 0, 0, 0, 0, 0, -1, 525600, 0]", stateOf(x));
        Kit.none("dial", () -> x.dial(0, 0));
        Kit.none("tells", () -> x.tells(0, 0, 0));
        Kit.none("turn", () -> x.turn(0, 0));
        Kit.none("read", () -> x.read(0, 0, 0, 0));
        Kit.none("faults", () -> x.faults(0, 0));
        Kit.none("next", () -> x.next(0, 0, 0));
        Kit.none("see", () -> x.see(0, 0));
        Kit.none("late", () -> x.late(0, 0, 0, 0));
        Kit.none("meet", () -> x.meet(0, 0, 0, 0, 0));
        Kit.none("mend", () -> x.mend(0, 0, 0));
        Kit.none("best", () -> x.best(0, 0, 0, 0));
        Kit.none("year", () -> x.year(0, 0, 0));
        Kit.none("takes", () -> x.takes(0, 0));
        Kit.same("none of these is refused", "[0, 120, 0, 0, 0, 0, 0, 0, 0, 0, 0, -1, 525600, 0]", stateOf(x));
    }

    private static void noneIsOneAnswer() {
        Kit.says("The constants: `NONE = -1`: There is none; DARK.");
        Kit.says("WHAT A DIAL TELLS; NONE: it is DARK.");
        Kit.says("What the LAW tells in a MINUTE of a DAY; NONE: DARK.");
        Kit.says("THE MIDDLE; NONE: DARK.");
        Kit.same("NONE", -1, LyingDials.NONE);
        LyingDials x = three();
        Kit.due("tells", LyingDials.NONE, () -> x.tells(0, 0, 0));
        Kit.due("lawful", LyingDials.NONE, () -> x.lawful(0, 0));
        Kit.due("middle", LyingDials.NONE, () -> x.middle(7, 0, 0));
    }

    private static void aFullTape() {
        Kit.says("how many it has; NONE, and none come, if it would have more than 700.");
        LyingDials x = new LyingDials();
        for (int many = 20; many <= 700; many += 20) {
            int want = many;
            Kit.due("feed", want, () -> x.feed(BLANKS, BLANKS, BLANKS, BLANKS, BLANKS));
        }
        for (int i = 0; i < 3; i++) {
            Kit.due("more than 700", -1, () -> x.feed(0, 0, 0, 0, 0));
            Kit.due("none come", 700, () -> x.count(6));
        }
        Kit.due("all blanks yet", 0, () -> x.port(700));
        Kit.due("empty again", 0, () -> x.count(6));
        Kit.due("from its beginning", 20, () -> x.feed(0x3b3b3b3b, 0, 0, 0, 0));
        Kit.due("the new bytes", 1, () -> x.port(20));
        Kit.due("at the first of them", 0, x::fault);
        Kit.feed(x, " ".repeat(693) + "swing 7");
        Kit.due("no room for ;", -1, () -> x.feed(0x3b202020, BLANKS, BLANKS, BLANKS, BLANKS));
        Kit.due("so it ends too soon", 1, () -> x.port(700));
        Kit.due("at 700", 700, x::fault);
    }

    private static void bytesOfANumber() {
        Kit.says("Twenty bytes come behind the tape, of each number the highest first");
        LyingDials x = new LyingDials();
        x.feed(0x7377696e, 0x67203132, 0x333b2020, BLANKS, 0x2020200a);
        Kit.due("'swing 123;'", 0, () -> x.port(20));
        Kit.due("SWING", 123, () -> x.count(1));
        x.feed(BLANKS, BLANKS, BLANKS, BLANKS, 0x20202073);
        x.feed(0x77696e67, 0x20373b20, BLANKS, BLANKS, BLANKS);
        Kit.due("a word over two feeds", 0, () -> x.port(40));
        Kit.due("SWING", 7, () -> x.count(1));
        int[][] rows = {{0x20202080, 3}, {0x2020ff20, 2}, {0x20e92020, 1}, {0x80202020, 0}, {-1, 0}, {MIN, 0},
            {0x20000000, 1}};
        for (int[] r : rows) {
            x.feed(r[0], BLANKS, BLANKS, BLANKS, BLANKS);
            Kit.due("a byte that is no TOKEN", 1, () -> x.port(20));
            Kit.due("its place", r[1], x::fault);
        }
    }

    private static void tapeOfAPort() {
        Kit.says("The tape's first n bytes (it is empty then) are a PORT");
        Kit.says("IllegalArgumentException: the tape has not so many, n below 0 (nothing changes).");
        LyingDials x = three();
        Kit.illegal("an empty tape", () -> x.port(1));
        Kit.feed(x, "swing 9;");
        String was = stateOf(x);
        for (int n : new int[] {-1, 21, 700, 701, MIN, MAX}) {
            Kit.illegal("port(" + n + ")", () -> x.port(n));
        }
        Kit.same("nothing changes", was, stateOf(x));
        Kit.due("the LAW stays", 725, () -> x.lawful(0, 720));
        Kit.due("all of it", 0, () -> x.port(20));
        Kit.due("SWING", 9, () -> x.count(1));
        Kit.feed(x, "swing 8;swing 7;");
        Kit.due("a part of it", 0, () -> x.port(8));
        Kit.due("SWING", 8, () -> x.count(1));
        Kit.due("the rest is gone", 0, () -> x.count(6));
        Kit.feed(x, "swing 8;");
        Kit.due("none of it", 0, () -> x.port(0));
        Kit.due("an empty PORT", 120, () -> x.count(1));
        Kit.due("and an empty tape", 0, () -> x.count(6));
        Kit.due("none of none", 0, () -> x.port(0));
    }

    private static void portWithAFault() {
        Kit.says("are a PORT, all anew: 0, or the FAULT (all stays).");
        String[] bad = {"sun", "swing 241;", "swing 1;swing 1;", "dial bowl 0 0 0;dial east 9 9 9;cloud 5 6 7;sun",
            "limps 9 9 9 9 9 9 9 9 9 9 9 9;cloud 0 0 1439;cloud 1 0 1439", "dial bowl 0 0 0;".repeat(10)};
        int[] faults = {1, 2, 3, 1, 1, 2};
        LyingDials x = three();
        x.image();
        List<Integer> was = told(x);
        for (int i = 0; i < bad.length; i++) {
            int n = i;
            Kit.due("port '" + bad[n] + "'", faults[n], () -> Kit.port(x, bad[n]));
            Kit.due("STATUS 0", n + 1, () -> x.count(7));
            Kit.due("an empty tape", 0, () -> x.count(6));
            Kit.same("all stays", was, told(x));
        }
        Kit.same("the image, too", true, x.restore());
        Kit.same("all stays", was, told(x));
    }

    private static List<Integer> told(LyingDials x) {
        return List.of(x.count(0), x.count(1), x.count(2), x.count(3), x.count(4), x.count(5), x.count(20), x.count(31),
                x.dial(0, 1), x.dial(2, 0), x.turn(0, 100), x.tells(0, 0, 720), x.tells(0, 100, 720),
                x.tells(1, 364, 800), x.tells(2, 15, 0), x.lawful(0, 720), x.faults(0, 1), x.days(0));
    }

    private static void portAllAnew() {
        Kit.says("READINGS, what is SEEN, MENDS, the image are gone (STATUS stays).");
        LyingDials x = three();
        x.image();
        x.see(2, 0);
        x.mend(0, 0, 121);
        x.mend(0, 0, 122);
        Kit.law(x, "sun");
        for (int i = 0; i < 14; i++) {
            x.read(0, 0, 0, 0);
        }
        Kit.due("the same PORT", 0, () -> Kit.port(x, THREE));
        Kit.same("only STATUS is left",
                "[3, 0, 0, 0, 0, 0, 0, 1, 4, 1, 2, -1, 5, 5, 5, 4961, -60, 0, 0, 0, 4961, -60, 0, 0, 0, 4961, -60, 525600, 0]", stateOf(x));
        Kit.same("no image", false, x.restore());
        Kit.illegal("no LAW", () -> x.lawful(0, 0));
        Kit.due("room for READINGS", 1, () -> x.read(0, 0, 0, 0));
        Kit.due("DIAL 2 isn't SEEN", 1, () -> x.see(2, 0));
        Kit.due("room for MENDS", 1, () -> x.mend(0, 0, 0));
    }

    /** Nothing of an earlier text, also of one with a FAULT, is left in a later one. */
    private static void portAfterPort() {
        Kit.says("are a PORT, all anew");
        LyingDials x = new LyingDials();
        String full = "swing 9;limps 1 1 1 1 1 1 1 1 1 1 1 1;cloud 0 0 1439;dial bowl 1 1 1 grown 1;";
        for (int i = 0; i < 3; i++) {
            Kit.due("a full PORT", 0, () -> Kit.port(x, full));
            Kit.due("one with a FAULT", 1, () -> Kit.port(x, full + "sun"));
            Kit.due("a small PORT", 0, () -> Kit.port(x, "dial bowl 0 0 0;cloud 1 0 900;"));
            Kit.due("DIALS", 1, () -> x.count(0));
            Kit.due("SWING", 120, () -> x.count(1));
            Kit.due("CLOUDS", 1, () -> x.count(2));
            Kit.due("a LIMP", 0, () -> x.count(20));
            Kit.due("GROWN", -1, () -> x.dial(0, 4));
            Kit.due("no CLOUD", 700, () -> x.tells(0, 0, 700));
            Kit.due("a CLOUD", -1, () -> x.tells(0, 1, 700));
            Kit.due("not GROWN over", 700, () -> x.tells(0, 364, 700));
            Kit.due("an empty PORT", 0, () -> x.port(0));
            Kit.due("DIALS", 0, () -> x.count(0));
            Kit.due("CLOUDS", 0, () -> x.count(2));
        }
    }

    private static void placesOfFaults() {
        Kit.says("The place of the latest port()'s, law()'s FAULT; NONE without.");
        LyingDials x = new LyingDials();
        Kit.due("at first", -1, x::fault);
        Kit.port(x, ";");
        Kit.due("place 0", 0, x::fault);
        Kit.port(x, "swing 241;");
        Kit.due("the latest", 6, x::fault);
        Kit.illegal("a call that throws", () -> x.law(5));
        Kit.due("is none", 6, x::fault);
        Kit.port(x, "dial painted 0 0 0;");
        Kit.due("without", -1, x::fault);
        Kit.law(x, "dial 1");
        Kit.due("a LAW's", 5, x::fault);
        Kit.port(x, "  sun");
        Kit.due("a PORT's", 2, x::fault);
        Kit.law(x, "dial 0");
        Kit.due("without", -1, x::fault);
        Kit.law(x, " ".repeat(700));
        Kit.due("the text's length", 700, x::fault);
    }

    private static void otherCounts() {
        Kit.says("7 to 10 STATUS 0 to 3, 20 to 31 LIMPS of MONTHS. NoSuchElementException: another what.");
        LyingDials x = Kit.of("limps 1 2 3 4 5 6 7 8 9 10 11 12;");
        for (int what = -3; what <= 35; what++) {
            int w = what;
            if (w >= 20 && w <= 31) {
                Kit.due("count(" + w + ")", w - 19, () -> x.count(w));
            } else if (w >= 0 && w <= 10) {
                Kit.due("count(" + w + ")", w == 1 ? 120 : 0, () -> x.count(w));
            } else {
                Kit.none("count(" + w + ")", () -> x.count(w));
            }
        }
        Kit.none("count", () -> x.count(MIN));
        Kit.none("count", () -> x.count(MAX));
    }

    private static void refusedCalls() {
        Kit.says("STATUS: how many calls were refused: 0 of TEXTS with a FAULT (of LAWS too), 1 of READINGS, 2 of what"
                + " is SEEN, 3 of MENDS.");
        LyingDials x = three();
        status(x, 0, 0, 0, 0);
        Kit.port(x, "sun");
        Kit.law(x, "sun");
        status(x, 2, 0, 0, 0);
        for (int i = 0; i < 11; i++) {
            x.read(0, 0, 0, 0);
        }
        status(x, 2, 1, 0, 0);
        x.see(2, 0);
        x.see(2, 720);
        x.see(2, 1439);
        status(x, 2, 1, 3, 0);
        for (int i = 0; i < 43; i++) {
            x.mend(0, 0, 0);
        }
        status(x, 2, 1, 3, 4);
        // A full tape, nothing to take back, and a text that there isn't, are none of them.
        x.forget();
        for (int i = 0; i < 36; i++) {
            x.feed(BLANKS, BLANKS, BLANKS, BLANKS, BLANKS);
        }
        Kit.illegal("port", () -> x.port(701));
        Kit.illegal("law", () -> x.law(-1));
        for (int i = 0; i < 13; i++) {
            x.unread();
        }
        for (int i = 0; i < 41; i++) {
            x.undo();
        }
        x.restore();
        status(x, 2, 1, 3, 4);
    }

    private static void status(LyingDials x, int... want) {
        for (int i = 0; i < 4; i++) {
            int what = 7 + i;
            Kit.due("count(" + what + ")", want[i], () -> x.count(what));
        }
    }

    private static void growthOfDials() {
        Kit.says("Of a DIAL: 0 KIND, 1 TURN as the text told, 2 TILT, 3 TOWN, 4 GROWN (NONE).");
        LyingDials x = Kit.of("dial east -120 -50 -120;dial painted 120 50 120 grown 0;dial moon 0 0 0 grown 364;");
        int[][] want = {{0, -120, -50, -120, -1}, {5, 120, 50, 120, 0}, {3, 0, 0, 0, 364}};
        x.mend(0, 0, 77);
        for (int dial = 0; dial < 3; dial++) {
            for (int what = 0; what < 5; what++) {
                int d = dial;
                int w = what;
                Kit.due("dial(" + d + ", " + w + ")", want[d][w], () -> x.dial(d, w));
            }
        }
    }

    private static void noImage() {
        Kit.says("They are as the image again: true. False: there is none.");
        LyingDials x = new LyingDials();
        Kit.same("a new object", false, x.restore());
        Kit.port(x, THREE);
        x.read(0, 0, 0, 0);
        x.see(0, 0);
        x.mend(0, 0, 0);
        String was = stateOf(x);
        Kit.same("none yet", false, x.restore());
        Kit.same("nothing changes", was, stateOf(x));
        x.image();
        Kit.same("one", true, x.restore());
        Kit.same("nothing changes", was, stateOf(x));
        Kit.same("again", true, x.restore());
        Kit.same("nothing changes", was, stateOf(x));
    }

    private static void imageOfNothing() {
        Kit.says("READINGS, what is SEEN and MENDS are kept as an image, in place of another one.");
        LyingDials x = Kit.of(THREE);
        String was = stateOf(x);
        x.image();
        x.read(0, 0, 720, 720);
        x.see(0, 0);
        x.mend(0, 0, 0);
        Kit.same("restore", true, x.restore());
        Kit.same("all empty", was, stateOf(x));
        Kit.due("nothing to take back", -1, x::unread);
        Kit.due("nothing to undo", -1, x::undo);
        Kit.due("nothing to forget", 0, x::forget);
        LyingDials y = new LyingDials();
        y.image();
        Kit.same("of a new object", true, y.restore());
    }

    private static void imageInPlaceOfAnother() {
        Kit.says("are kept as an image, in place of another one.");
        LyingDials x = three();
        x.image();
        x.unread();
        x.forget();
        x.undo();
        x.mend(2, 7, 70);
        String second = stateOf(x);
        x.image();
        x.undo();
        x.read(0, 0, 0, 0);
        x.see(1, 1);
        Kit.same("restore", true, x.restore());
        Kit.same("the second one", second, stateOf(x));
        // What comes behind restore() is none of the image's.
        x.read(1, 0, 0, 0);
        x.see(0, 0);
        x.undo();
        x.mend(0, 0, 99);
        Kit.same("restore", true, x.restore());
        Kit.same("the second one yet", second, stateOf(x));
    }

    private static void imageOfAllThatCanBe() {
        Kit.says("They are as the image again");
        LyingDials x = Kit.of("dial bowl 0 0 0;".repeat(9) + "limps 0 0 0 0 0 0 0 0 0 0 0 30;");
        for (int i = 0; i < 12; i++) {
            // Of each DIAL the same TURN is read each time, so that it fits.
            x.read(i % 9, i, 720 + i, 720 + i + i % 9);
        }
        Kit.due("a TURN that fits", 8, () -> x.faults(8, 1));
        for (int i = 0; i < 9; i++) {
            x.see(i, i);
        }
        for (int i = 0; i < 40; i++) {
            x.mend(i % 9, i, i);
        }
        String was = stateOf(x);
        x.image();
        for (int i = 0; i < 12; i++) {
            x.unread();
        }
        x.forget();
        for (int i = 0; i < 40; i++) {
            x.undo();
        }
        for (int i = 0; i < 12; i++) {
            x.read((i + 1) % 9, 364 - i, 700, 100 + i);
        }
        for (int i = 0; i < 40; i++) {
            x.mend((i + 1) % 9, 364 - i, 120 - i);
        }
        Kit.same("restore", true, x.restore());
        Kit.same("all is there", was, stateOf(x));
        Kit.due("full of READINGS", -1, () -> x.read(0, 0, 0, 0));
        Kit.due("all are SEEN", -1, () -> x.see(8, 0));
        Kit.due("full of MENDS", -1, () -> x.mend(0, 0, 0));
        Kit.due("the last READING", 11, x::unread);
        Kit.due("the last MEND", 39, x::undo);
        Kit.due("as before it", 30, () -> x.turn(3, 364));
        Kit.due("all nine", 9, x::forget);
    }

    private static void imageAndPorts() {
        Kit.says("READINGS, what is SEEN, MENDS, the image are gone");
        LyingDials x = three();
        x.image();
        Kit.due("a FAULT", 1, () -> Kit.port(x, "sun"));
        Kit.same("leaves it", true, x.restore());
        Kit.due("a LAW", 0, () -> Kit.law(x, "dial 1"));
        Kit.same("leaves it", true, x.restore());
        Kit.due("and isn't part of it", -1, () -> x.lawful(0, 719));
        Kit.illegal("what throws", () -> x.port(1));
        Kit.same("leaves it", true, x.restore());
        Kit.due("an empty PORT", 0, () -> x.port(0));
        Kit.same("doesn't", false, x.restore());
        Kit.due("another PORT", 0, () -> Kit.port(x, THREE));
        Kit.same("doesn't bring it back", false, x.restore());
    }

    private static void aLongLife() {
        Kit.says("An object is used for at most 512 calls after it has been made");
        LyingDials x = new LyingDials();
        x.feed(0x6469616c, 0x20626f77, 0x6c203020, 0x3020303b, BLANKS);
        x.port(20);
        // 2 calls so far, 7 each of 72 times: 506.
        for (int i = 0; i < 72; i++) {
            int day = 5 * i;
            Kit.due("read", 1, () -> x.read(0, day, 720, 720));
            Kit.due("faults", 41, () -> x.faults(0, 0));
            Kit.due("unread", 0, x::unread);
            Kit.due("mend", 1, () -> x.mend(0, day, 7));
            Kit.due("tells", 727, () -> x.tells(0, day, 720));
            Kit.due("undo", 0, x::undo);
            Kit.due("tells", 720, () -> x.tells(0, day, 720));
        }
        x.image();
        Kit.due("see", 1, () -> x.see(0, 720));
        Kit.due("days", 365, () -> x.days(0));
        Kit.same("restore", true, x.restore());
        Kit.due("forget", 0, x::forget);
        Kit.due("the 512th call", 365, () -> x.year(0, 720, 0));
    }
}
