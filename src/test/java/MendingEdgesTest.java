/** What is WRONG, MENDS, which DIAL to live by (terms under 5): each sentence that names an edge, at it and past it. */
public final class MendingEdgesTest {
    private static final String EQUAL_HALVES = "limps 0 0 0 0 0 0 10 10 10 10 10 10;cloud 0 800 800;cloud 1 800 800;"
            + "cloud 2 800 800;cloud 3 800 800;cloud 4 800 800;cloud 5 800 800;cloud 6 800 800;";

    private MendingEdgesTest() {
    }

    public static void main(String[] args) {
        theShorterWayRound();
        theShorterWayRoundMidnight();
        fortyMends();
        mendedTurns();
        mendsThatAreRefused();
        nothingToUndo();
        withinSoManyMinutes();
        rightWithin();
        rightOnNoDay();
        bestIsNextToTheTextsTurn();
        bestOfTwoAsNearIsTheLeast();
        bestLeavesMendsOut();
        bestOfACannon();
        aYear();
        darkOnFewestDays();
        noDialToLiveBy();
        theMiddlesPlace();
        theMiddleOfTheDark();
        bitsOfDials();
        togetherOfLikeOnes();
        togetherNever();
        fewerThanTwo();
        takenFromADayOn();
        takenOfThePainted();
        takenOfCannonAndMoon();
        Kit.end();
    }

    private static void years(LyingDials x, int[]... rows) {
        for (int[] r : rows) {
            Kit.due(Kit.asked("year", r), r[3], () -> x.year(r[0], r[1], r[2]));
        }
    }

    private static void theShorterWayRound() {
        Kit.says("WRONG is how far what a DIAL tells is from the true MINUTE, the shorter way round (at most 720).");
        LyingDials x = Kit.of("dial painted 0 0 0;dial painted -120 0 -120;dial painted 120 0 120;");
        int[][] rows = {{0, 720, 0}, {0, 719, 1}, {0, 721, 1}, {0, 0, 720}, {0, 1, 719}, {0, 1439, 719}, {1, 480, 0},
            {1, 1199, 719}, {1, 1200, 720}, {1, 1201, 719}, {1, 1439, 481}, {1, 0, 480}, {2, 239, 719}, {2, 240, 720},
            {2, 241, 719}, {2, 0, 480}, {2, 1439, 479}};
        for (int[] r : rows) {
            years(x, new int[] {r[0], r[1], 0, 365}, new int[] {r[0], r[1], 1, 365 * r[2]});
        }
    }

    private static void theShorterWayRoundMidnight() {
        Kit.says("the shorter way round (at most 720)");
        // Up to DAY 8 only that one is light at 24: the first DIAL tells 1439 then, the second one 0.
        LyingDials x = Kit.of("swing 0;dial moon 120 50 59 grown 9;dial moon 120 50 60 grown 9;"
                + "dial moon -120 50 -60 grown 23;dial moon -120 50 -60 grown 22;");
        years(x, new int[][] {{0, 24, 0, 1}, {0, 24, 1, 25}, {1, 24, 0, 1}, {1, 24, 1, 24}});
        // On DAY 22 at 1416 both last ones would tell 0, but one of them is GROWN over.
        Kit.due("one DAY more", 1, () -> x.year(2, 1416, 0) - x.year(3, 1416, 0));
        Kit.due("and 24 more", 24, () -> x.year(2, 1416, 1) - x.year(3, 1416, 1));
    }

    private static void fortyMends() {
        Kit.says("A MEND (at most 40)");
        Kit.says("A MEND: how many there are. NONE (STATUS 3): there are 40, the DIAL is painted, no such TURN.");
        LyingDials x = Kit.of("dial bowl 0 0 0;dial bowl 0 0 0;dial bowl 3 0 0;");
        for (int i = 1; i <= 40; i++) {
            int many = i;
            Kit.due("MEND " + many, many, () -> x.mend(many % 2, 0, many));
        }
        Kit.due("a 41st", -1, () -> x.mend(0, 0, 77));
        Kit.due("a 41st of another DIAL", -1, () -> x.mend(2, 0, 77));
        Kit.due("STATUS 3", 2, () -> x.count(10));
        Kit.due("there are 40 yet", 40, () -> x.count(5));
        Kit.due("the 40th counts", 40, () -> x.turn(0, 0));
        Kit.due("the 39th counts", 39, () -> x.turn(1, 0));
        Kit.due("a refused one doesn't", 3, () -> x.turn(2, 0));
        Kit.due("one is undone", 39, x::undo);
        Kit.due("and there is room", 40, () -> x.mend(2, 0, 77));
        Kit.due("for one", -1, () -> x.mend(2, 0, 78));
        Kit.due("which counts", 77, () -> x.turn(2, 0));
    }

    private static void mendedTurns() {
        Kit.says("has another TURN (-120 to 120) from a DAY on.");
        LyingDials x = Kit.of("dial bowl 0 0 0;");
        int many = 0;
        for (int turn : new int[] {-120, -119, -1, 0, 1, 119, 120}) {
            int want = ++many;
            Kit.due("mend(0, 0, " + turn + ")", want, () -> x.mend(0, 0, turn));
            Kit.due("the TURN", turn, () -> x.turn(0, 0));
        }
        int refused = 0;
        for (int turn : new int[] {-121, 121, Integer.MIN_VALUE, Integer.MAX_VALUE}) {
            int want = ++refused;
            Kit.due("mend(0, 0, " + turn + ")", -1, () -> x.mend(0, 0, turn));
            Kit.due("STATUS 3", want, () -> x.count(10));
            Kit.due("the TURN stays", 120, () -> x.turn(0, 0));
        }
        Kit.due("MENDS", 7, () -> x.count(5));
    }

    private static void mendsThatAreRefused() {
        Kit.says("NONE (STATUS 3): there are 40, the DIAL is painted, no such TURN.");
        LyingDials x = Kit.of("dial painted 5 0 0;dial bowl 0 0 0;");
        Kit.due("painted", -1, () -> x.mend(0, 0, 0));
        Kit.due("painted, no such TURN", -1, () -> x.mend(0, 0, 121));
        Kit.due("each call is refused once", 2, () -> x.count(10));
        Kit.due("its TURN stays", 5, () -> x.turn(0, 0));
        Kit.due("no MEND", 0, () -> x.count(5));
        Kit.none("no such DAY is ahead", () -> x.mend(0, 365, 121));
        Kit.none("no such DIAL is ahead", () -> x.mend(2, 0, 121));
        Kit.due("which is no refusal", 2, () -> x.count(10));
    }

    private static void nothingToUndo() {
        Kit.says("The last MEND is undone: how many are left. NONE: there are none.");
        LyingDials x = Kit.of("dial bowl 9 0 0;dial bowl 9 0 0;");
        Kit.due("none", -1, x::undo);
        x.mend(0, 5, 1);
        x.mend(1, 0, 2);
        Kit.due("the last that was done", 1, x::undo);
        Kit.due("not the latest DAY", 1, () -> x.turn(0, 5));
        Kit.due("as told", 9, () -> x.turn(1, 0));
        Kit.due("the other one", 0, x::undo);
        Kit.due("as told", 9, () -> x.turn(0, 5));
        Kit.due("none again", -1, x::undo);
        Kit.due("nothing is refused by it", 0, () -> x.count(10));
    }

    private static void best(LyingDials x, int dial, int minute, int within, int turn, int days) {
        String name = "best(" + dial + ", " + minute + ", " + within;
        Kit.due(name + ", 0)", turn, () -> x.best(dial, minute, within, 0));
        Kit.due(name + ", 1)", days, () -> x.best(dial, minute, within, 1));
    }

    private static void withinSoManyMinutes() {
        Kit.says("WITHIN so many MINUTES (0 to 120)");
        Kit.says("IllegalArgumentException (behind that): WITHIN, the DIAL is painted.");
        LyingDials x = Kit.of("swing 0;dial bowl 0 0 0;dial painted 0 0 0;");
        best(x, 0, 720, 0, 0, 365);
        best(x, 0, 720, 120, 0, 365);
        for (int within : new int[] {-1, 121, Integer.MIN_VALUE, Integer.MAX_VALUE}) {
            Kit.illegal("WITHIN " + within, () -> x.best(0, 720, within, 0));
            Kit.none("no such MINUTE is ahead", () -> x.best(0, 1440, within, 0));
            Kit.none("no such DIAL is ahead", () -> x.best(2, 720, within, 0));
            Kit.none("another what is ahead", () -> x.best(0, 720, within, 2));
        }
        Kit.illegal("painted", () -> x.best(1, 720, 0, 0));
        Kit.illegal("painted", () -> x.best(1, 720, 120, 1));
        Kit.none("another what is ahead", () -> x.best(1, 720, 0, 2));
        Kit.none("another what is ahead", () -> x.best(1, 720, 0, -1));
        Kit.none("no such MINUTE is ahead", () -> x.best(1, -1, 0, 0));
    }

    private static void rightWithin() {
        Kit.says("of TURNS -120 to 120 that by which on most DAYS");
        Kit.says("is WRONG by WITHIN or less");
        String limps = "limps -30 -30 -30 -30 -30 -30 -30 -30 -30 -30 -30 -30;";
        LyingDials x = Kit.of("swing 0;dial bowl 7 0 120;" + limps + "dial bowl -120 0 120;dial bowl -8 0 90;");
        // NOON is 690: DIAL 0 tells 150 and its TURN too much.
        best(x, 0, 700, 29, 7, 0);
        best(x, 0, 700, 30, -120, 365);
        best(x, 0, 700, 31, -119, 365);
        best(x, 1, 700, 31, -120, 365);
        best(x, 1, 700, 29, -120, 0);
        best(x, 2, 700, 0, -120, 365);
        best(x, 2, 700, 111, -9, 365);
        best(x, 2, 700, 112, -8, 365);
        best(x, 2, 700, 120, -8, 365);
        LyingDials y = Kit.of("swing 0;dial bowl 7 0 -120;" + limps.replace("-", "") + "dial bowl 120 0 -120;");
        best(y, 0, 700, 29, 7, 0);
        best(y, 0, 700, 30, 120, 365);
        best(y, 0, 700, 31, 119, 365);
        best(y, 1, 700, 31, 120, 365);
    }

    private static void rightOnNoDay() {
        Kit.says("it isn't DARK and is WRONG by WITHIN or less; of like ones that next to the TURN that the text told");
        LyingDials x = Kit.of("swing 0;dial bowl -120 0 0;dial bowl 120 0 0;dial bowl 1 0 0 grown 0;"
                + "dial bowl 1 0 0 grown 1;dial moon -5 0 0;");
        best(x, 0, 359, 120, -120, 0);
        best(x, 1, 1081, 120, 120, 0);
        best(x, 2, 720, 120, 1, 0);
        best(x, 3, 720, 0, 0, 1);
        best(x, 4, 720, 120, -5, 0);
        best(x, 0, 360, 0, 0, 365);
        best(x, 1, 1080, 0, 0, 365);
    }

    private static void bestIsNextToTheTextsTurn() {
        Kit.says("of like ones that next to the TURN that the text told, then the least.");
        LyingDials x = Kit.of("swing 0;dial bowl 50 0 0;dial bowl -50 0 0;dial bowl 10 0 0;dial bowl 0 0 0;");
        best(x, 0, 800, 10, 10, 365);
        best(x, 1, 800, 10, -10, 365);
        best(x, 2, 800, 10, 10, 365);
        best(x, 2, 800, 9, 9, 365);
        best(x, 3, 800, 10, 0, 365);
    }

    private static void bestOfTwoAsNearIsTheLeast() {
        Kit.says("then the least.");
        // By TURN 0 it is right on 186 DAYS, of which 7 are clouded, by TURN 10 on 179.
        LyingDials x = Kit.of("swing 0;dial bowl 5 0 0;dial bowl 6 0 0;dial bowl 4 0 0;" + EQUAL_HALVES);
        best(x, 0, 800, 0, 0, 179);
        best(x, 1, 800, 0, 10, 179);
        best(x, 2, 800, 0, 0, 179);
        best(x, 0, 799, 0, 0, 186);
        best(x, 1, 799, 0, 0, 186);
    }

    private static void bestLeavesMendsOut() {
        Kit.says("(0 to 364; MENDS of it left out)");
        LyingDials x = Kit.of("swing 0;dial bowl 20 0 0;");
        x.mend(0, 0, 77);
        x.mend(0, 364, -77);
        best(x, 0, 800, 0, 0, 365);
        best(x, 0, 800, 10, 10, 365);
        best(x, 0, 100, 0, 20, 0);
    }

    private static void bestOfACannon() {
        Kit.says("A cannon tells 720, if what it would tell (as a bowl) is 720, else it is DARK.");
        LyingDials x = Kit.of("swing 0;dial cannon 3 50 0;");
        best(x, 0, 720, 0, 0, 365);
        best(x, 0, 600, 120, 120, 365);
        best(x, 0, 600, 119, 3, 0);
        best(x, 0, 599, 120, 3, 0);
        best(x, 0, 840, 120, -120, 365);
        best(x, 0, 840, 119, 3, 0);
        best(x, 0, 841, 120, 3, 0);
    }

    private static void aYear() {
        Kit.says("A YEAR by a MINUTE: of a DIAL on how many DAYS it isn't DARK, and how much it is WRONG then, all"
                + " together.");
        LyingDials x = Kit.of("swing 0;dial bowl 3 0 0;dial bowl 3 0 0 grown 0;dial bowl 3 0 0 grown 364;"
                + "dial bowl 3 0 0 grown 1;cloud 9 360 360;");
        years(x, new int[][] {{0, 359, 0, 0}, {0, 359, 1, 0}, {0, 360, 0, 364}, {0, 360, 1, 364 * 3}, {0, 361, 0, 365},
            {0, 1080, 0, 365}, {0, 1080, 1, 365 * 3}, {0, 1081, 0, 0}, {1, 720, 0, 0}, {1, 720, 1, 0},
            {2, 720, 0, 364}, {2, 720, 1, 364 * 3}, {3, 720, 0, 1}, {3, 720, 1, 3}});
        x.mend(0, 364, 0);
        years(x, new int[][] {{0, 720, 0, 365}, {0, 720, 1, 364 * 3}});
    }

    private static void lives(String text, int minute, int want) {
        LyingDials x = Kit.of(text);
        Kit.due("live(" + minute + ") with " + text, want, () -> x.live(minute));
    }

    private static void darkOnFewestDays() {
        Kit.says("TO LIVE BY: the DIAL which is DARK on fewest DAYS at a MINUTE, of like ones least WRONG together, of"
                + " like ones the least.");
        lives("dial bowl 0 0 0 grown 364;dial painted 120 0 120;", 720, 1);
        lives("dial bowl 1 0 0;dial painted 0 0 0;", 720, 1);
        lives("dial bowl 0 0 0;dial painted 0 0 0;", 720, 0);
        lives("dial bowl 1 0 0;dial bowl -1 0 0;dial bowl 0 0 0;dial bowl 0 0 0;", 720, 2);
        lives("dial bowl 1 0 0;", 720, 0);
        lives("dial bowl 1 0 0;dial bowl 0 0 0;", 0, 0);
        lives("dial bowl 0 0 0 grown 0;".repeat(8) + "dial bowl 99 0 0 grown 1;", 720, 8);
        lives("dial bowl 0 0 0 grown 363;dial bowl 9 0 0 grown 364;", 720, 1);
    }

    private static void noDialToLiveBy() {
        Kit.says("TO LIVE BY; NONE: there are no DIALS.");
        LyingDials x = new LyingDials();
        Kit.due("none", -1, () -> x.live(0));
        Kit.due("none", -1, () -> x.live(1439));
        Kit.none("no such MINUTE, though none", () -> x.live(1440));
        Kit.none("no such MINUTE, though none", () -> x.live(-1));
        lives("swing 1;", 720, -1);
    }

    private static LyingDials ninePainted() {
        StringBuilder text = new StringBuilder();
        for (int turn : new int[] {8, 0, 7, 1, 6, 2, 5, 3, 4}) {
            text.append("dial painted ").append(turn).append(" 0 0;");
        }
        return Kit.of(text.toString());
    }

    private static void theMiddlesPlace() {
        Kit.says("as a row from the least, the one at half of how many there are, cut down (0 the first)");
        LyingDials x = ninePainted();
        int[] turns = {8, 8, 7, 7, 6, 6, 5, 5, 4};
        for (int many = 1; many <= 9; many++) {
            int bits = (1 << many) - 1;
            int want = 720 + turns[many - 1];
            Kit.due("middle(" + bits + ", 0, 0)", want, () -> x.middle(bits, 0, 0));
        }
        Kit.due("the last one alone", 724, () -> x.middle(256, 364, 1439));
        Kit.due("the first and the last", 728, () -> x.middle(257, 0, 0));
        LyingDials like = Kit.of("dial painted 1 0 0;dial painted 1 0 0;dial painted 0 0 0;dial painted 2 0 0;");
        Kit.due("like ones", 721, () -> like.middle(15, 0, 0));
        Kit.due("like ones", 721, () -> like.middle(3, 0, 0));
        Kit.due("like ones", 721, () -> like.middle(7, 0, 0));
    }

    private static void theMiddleOfTheDark() {
        Kit.says("of what those that aren't DARK tell in a MINUTE");
        Kit.says("DARK, if all are.");
        LyingDials x = Kit.of("swing 0;dial bowl 0 0 0;dial painted 9 0 0;dial bowl 5 0 0;dial bowl 0 0 0 grown 0;");
        Kit.due("no bits", -1, () -> x.middle(0, 0, 720));
        Kit.due("all DARK", -1, () -> x.middle(13, 0, 359));
        Kit.due("two of three", 365, () -> x.middle(13, 0, 360));
        Kit.due("but the painted one", 729, () -> x.middle(15, 0, 359));
        Kit.due("GROWN over", -1, () -> x.middle(8, 0, 720));
        Kit.due("three", 725, () -> x.middle(15, 0, 720));
        LyingDials none = new LyingDials();
        Kit.due("no bits of no DIALS", -1, () -> none.middle(0, 0, 0));
    }

    private static void bitsOfDials() {
        Kit.says("IllegalArgumentException (behind NoSuchElementException): bits of DIALS that there aren't.");
        LyingDials x = ninePainted();
        Kit.due("all nine", 724, () -> x.middle(511, 0, 0));
        LyingDials three = Kit.of("dial painted 0 0 0;dial painted 1 0 0;dial painted 2 0 0;");
        Kit.due("all three", 721, () -> three.middle(7, 0, 0));
        LyingDials none = new LyingDials();
        for (int bits : new int[] {512, 513, 1 << 30, -1, Integer.MIN_VALUE, Integer.MAX_VALUE}) {
            Kit.illegal("bits " + bits, () -> x.middle(bits, 0, 0));
            Kit.none("no such DAY is ahead", () -> x.middle(bits, 365, 0));
            Kit.none("no such DAY is ahead", () -> x.middle(bits, -1, 0));
            Kit.none("no such MINUTE is ahead", () -> x.middle(bits, 0, 1440));
            Kit.none("no such MINUTE is ahead", () -> x.middle(bits, 0, -1));
        }
        Kit.illegal("a fourth", () -> three.middle(8, 0, 0));
        Kit.illegal("a fourth beside others", () -> three.middle(15, 0, 0));
        Kit.illegal("one of none", () -> none.middle(1, 0, 0));
    }

    private static void together(LyingDials x, int day, int pair, int minutes) {
        Kit.due("together(" + day + ", 0)", pair, () -> x.together(day, 0));
        Kit.due("together(" + day + ", 1)", minutes, () -> x.together(day, 1));
    }

    private static void togetherOfLikeOnes() {
        Kit.says("TOGETHER: the two DIALS that on a DAY tell in most MINUTES both (not DARK); of like ones the least,"
                + " then the least other one.");
        together(ninePainted(), 0, 1, 1440);
        together(Kit.of("swing 0;dial east 0 0 0;dial bowl 0 0 0;dial bowl 0 0 0;dial bowl 0 0 0;"), 0, 12, 721);
        together(Kit.of("swing 0;dial bowl 0 0 0;dial east 0 0 0;dial bowl 0 0 0;dial bowl 0 0 0;"), 364, 2, 721);
        together(Kit.of("dial bowl 0 0 0 grown 0;".repeat(7) + "dial painted 0 0 0;dial painted 0 0 0;"), 0, 78, 1440);
        together(Kit.of("swing 240;dial bowl 0 0 0;dial bowl 0 0 0;"), 172, 1, 1201);
        together(Kit.of("swing 0;dial east 0 0 0;dial painted 0 0 0;dial west 0 0 0;cloud 0 720 720;"), 0, 1, 360);
        together(Kit.of("swing 0;dial east 0 0 0;dial painted 0 0 0;dial west 0 0 0;cloud 0 719 719;"), 0, 12, 361);
    }

    private static void togetherNever() {
        Kit.says("10 by the least and the other one (what 0), in how many MINUTES (1).");
        together(Kit.of("swing 0;dial east 0 0 0;dial west 0 0 0;"), 0, 1, 1);
        together(Kit.of("swing 0;dial east 0 0 0;dial west 0 0 0;cloud 0 720 720;"), 0, 1, 0);
        together(Kit.of("dial bowl 0 0 0 grown 0;".repeat(9)), 364, 1, 0);
        together(Kit.of("swing 0;dial bowl 0 0 0;dial moon 0 0 0;"), 15, 1, 0);
        LyingDials x = Kit.of("swing 0;dial cannon 0 0 0;dial cannon 1 0 0;dial cannon 1 0 0;dial bowl 0 0 0 grown 5;");
        together(x, 4, 3, 1);
        together(x, 5, 12, 1);
        x.mend(2, 7, 0);
        together(x, 6, 12, 1);
        together(x, 7, 2, 1);
        x.mend(2, 7, 2);
        together(x, 7, 1, 0);
    }

    private static void fewerThanTwo() {
        Kit.says("NONE (what 1: 0): there are fewer than two.");
        together(new LyingDials(), 0, -1, 0);
        together(new LyingDials(), 364, -1, 0);
        together(Kit.of("dial painted 0 0 0;"), 0, -1, 0);
        LyingDials x = new LyingDials();
        Kit.none("another what, though none", () -> x.together(0, 2));
        Kit.none("another what, though none", () -> x.together(0, -1));
        Kit.none("no such DAY, though none", () -> x.together(365, 0));
        Kit.none("no such DAY, though none", () -> x.together(-1, 1));
    }

    private static void takes(LyingDials x, int[]... rows) {
        for (int[] r : rows) {
            Kit.due(Kit.asked("takes", r), r[2], () -> x.takes(r[0], r[1]));
        }
    }

    private static void takenFromADayOn() {
        Kit.says("WHAT A WALL TAKES of a DIAL: in how many MINUTES of all DAYS from one on it isn't DARK");
        LyingDials x = Kit.of("swing 0;dial bowl 0 0 0;dial east 0 0 0;dial west 0 0 0;dial bowl 0 0 0 grown 364;"
                + "dial bowl 0 0 0 grown 0;cloud 363 0 1439;cloud 362 360 360;cloud 362 1080 1439;cloud 361 0 359;");
        int clouded = 721 + 2;
        takes(x, new int[][] {{0, 364, 721}, {0, 363, 721}, {0, 362, 721 + 719}, {0, 361, 721 + 719 + 721},
            {0, 0, 365 * 721 - clouded}, {0, 1, 364 * 721 - clouded}, {1, 364, 361}, {1, 362, 361 + 360},
            {2, 364, 361}, {2, 362, 361 + 360}, {3, 364, 0}, {3, 362, 719}, {4, 0, 0}, {4, 364, 0}});
        LyingDials y = Kit.of("swing 240;dial bowl 0 0 0;");
        Kit.due("the longest DAY", 1201, () -> y.takes(0, 172) - y.takes(0, 173));
        Kit.due("the shortest DAY", 241, () -> y.takes(0, 354) - y.takes(0, 355));
    }

    private static void takenOfThePainted() {
        Kit.says("these would be lost, were it GROWN over then (0 of a painted one).");
        LyingDials x = Kit.of("dial painted 0 0 0;dial painted 0 0 0 grown 5;");
        takes(x, new int[][] {{0, 0, 0}, {0, 364, 0}, {1, 0, 0}, {1, 364, 0}});
    }

    private static void takenOfCannonAndMoon() {
        Kit.says("in how many MINUTES of all DAYS from one on it isn't DARK");
        LyingDials x = Kit.of("swing 0;dial cannon 0 0 0;dial moon 0 0 0;dial cannon 120 0 120;cloud 364 720 720;");
        takes(x, new int[][] {{0, 364, 0}, {0, 363, 1}, {0, 0, 364}, {1, 364, 0}, {1, 353, 0}, {2, 364, 1},
            {2, 0, 365}});
        // By AGE 22, from 1416 to 359 by way of midnight.
        takes(x, new int[] {1, 352, 24 + 360});
        // By AGE 8, from 1081 to 24; by AGE 15 all night.
        Kit.due("AGE 8", 359 + 25, () -> x.takes(1, 338) - x.takes(1, 339));
        Kit.due("AGE 15", 359 + 360, () -> x.takes(1, 345) - x.takes(1, 346));
        x.mend(0, 363, 1);
        takes(x, new int[][] {{0, 364, 1}, {0, 363, 2}, {0, 0, 365}});
        LyingDials y = Kit.of("swing 240;dial cannon 60 0 60;dial cannon 60 0 61;");
        // HALF is 120 on DAYS 354 and 355 alone: the second one is a MINUTE too early then.
        Kit.due("fires on both", 2, () -> y.takes(0, 354) - y.takes(0, 356));
        Kit.due("fires on none", 0, () -> y.takes(1, 354) - y.takes(1, 356));
        Kit.due("fires on the next", 1, () -> y.takes(1, 356) - y.takes(1, 357));
    }
}
