/** READINGS, what is SEEN, MEETINGS (terms under 3 and 4): each sentence that names an edge, at the edge and past it. */
public final class ReadingEdgesTest {
    private static final int ALL_COUPLES = 121 * 41;

    private ReadingEdgesTest() {
    }

    public static void main(String[] args) {
        twelveReadingsInAll();
        nothingToUnread();
        turnsThatFit();
        turnsThatFitRoundMidnight();
        tiltsThatFit();
        whateverItHas();
        darkDoesNotFit();
        darkCannonDoesNotFit();
        noReadings();
        noneFits();
        readingsOfOthers();
        nextFirstAndLastMinute();
        nextOfLikeOnesTheLeast();
        nextGroupsAtTheirEnds();
        nextWithOneTurn();
        nextWhenNoneFits();
        nextGroupsOfACannon();
        eachDialSeenOnce();
        nineSeen();
        forgetting();
        allMinutesFit();
        noMinuteFits();
        minutesAtTheEnds();
        daysThatFit();
        firstAndLastDay();
        firstMinuteOfAMeeting();
        meetingThatCanNotBe();
        lateIsNotTheShorterWay();
        meetingsToTheLastDay();
        meetingsOfLikeOnesTheFirst();
        Kit.end();
    }

    private static void twelveReadingsInAll() {
        Kit.says("READINGS of a DIAL (at most 12 in all)");
        Kit.says("A READING: how many there are. NONE (STATUS 1): there are 12.");
        LyingDials x = Kit.of("dial painted 0 0 0;dial painted 1 0 0;dial painted 2 0 0;");
        for (int i = 1; i <= 12; i++) {
            int many = i;
            Kit.due("READING " + many, many, () -> x.read(many % 2, 0, 0, 720 + many % 2));
        }
        for (int dial = 0; dial < 3; dial++) {
            int d = dial;
            Kit.due("a 13th, of DIAL " + d, -1, () -> x.read(d, 0, 0, 0));
            Kit.due("STATUS 1", d + 1, () -> x.count(8));
        }
        Kit.due("there are 12 yet", 12, () -> x.count(3));
        Kit.due("a refused one counts for nothing", 41, () -> x.faults(0, 0));
        Kit.due("nor that of a DIAL without", ALL_COUPLES, () -> x.faults(2, 0));
        Kit.due("one is taken back", 11, x::unread);
        Kit.due("and there is room", 12, () -> x.read(2, 0, 0, 722));
        Kit.due("for one", -1, () -> x.read(2, 0, 0, 722));
    }

    private static void nothingToUnread() {
        Kit.says("The last READING is taken back: how many are left. NONE: there are none.");
        LyingDials x = Kit.of("dial painted 0 0 0;dial painted 0 0 0;");
        Kit.due("none", -1, x::unread);
        x.read(0, 0, 0, 720);
        x.read(1, 0, 0, 721);
        Kit.due("the last", 1, x::unread);
        Kit.due("that of DIAL 1 is gone", ALL_COUPLES, () -> x.faults(1, 0));
        Kit.due("that of DIAL 0 is not", 41, () -> x.faults(0, 0));
        Kit.due("the last of all", 0, x::unread);
        Kit.due("none again", -1, x::unread);
        Kit.due("nothing is refused by it", 0, () -> x.count(8));
        Kit.due("none", 0, () -> x.count(3));
    }

    /** How many couples FIT, if this alone is read. */
    private static void fitting(LyingDials x, int many, int dial, int day, int minute, int told) {
        x.read(dial, day, minute, told);
        Kit.due("faults(" + dial + ", 0) with " + told + " told at " + minute + " on " + day, many,
                () -> x.faults(dial, 0));
        x.unread();
    }

    private static void turnsThatFit() {
        Kit.says("FAULTS that FIT: TURNS (-60 to 60)");
        LyingDials x = Kit.of("swing 0;dial painted 120 0 0;dial bowl -120 0 120;dial cannon 0 0 0;dial moon 0 0 0;");
        int[][] rows = {{0, 0, 0, 780}, {0, 0, 0, 660}, {1, 0, 720, 900}, {1, 0, 720, 780}};
        for (int i = 0; i < rows.length; i++) {
            int[] r = rows[i];
            int past = i % 2 == 0 ? 1 : -1;
            fitting(x, 41, r[0], r[1], r[2], r[3]);
            fitting(x, 0, r[0], r[1], r[2], r[3] + past);
        }
        // A cannon that is heard fires by its TURN alone: 60 ahead of NOON by 60.
        fitting(x, 41, 2, 0, 660, 720);
        fitting(x, 0, 2, 0, 659, 720);
        fitting(x, 41, 2, 0, 780, 720);
        fitting(x, 0, 2, 0, 781, 720);
        // At its noon a moon tells by its TURN alone.
        fitting(x, 41, 3, 15, 0, 780);
        fitting(x, 0, 3, 15, 0, 781);
        fitting(x, 41, 3, 15, 0, 660);
        fitting(x, 0, 3, 15, 0, 659);
        x.read(0, 0, 0, 780);
        Kit.due("the greatest TURN", 60, () -> x.faults(0, 2));
        Kit.due("is the least", 60, () -> x.faults(0, 1));
        x.read(1, 0, 720, 780);
        Kit.due("the least TURN", -60, () -> x.faults(1, 1));
        Kit.due("is the greatest", -60, () -> x.faults(1, 2));
    }

    private static void turnsThatFitRoundMidnight() {
        Kit.says("told is 720, and THE ANGLE by (100 and TILT) by 100, cut down to 0, and TURN and TOWN, MOD 1440");
        // At 120 on DAY 172 it tells 0 and its TURN.
        LyingDials x = Kit.of("swing 240;dial bowl 0 0 -120;dial bowl 0 0 120;");
        fitting(x, 41, 0, 172, 120, 0);
        fitting(x, 41, 0, 172, 120, 60);
        fitting(x, 0, 0, 172, 120, 61);
        fitting(x, 41, 0, 172, 120, 1439);
        fitting(x, 41, 0, 172, 120, 1380);
        fitting(x, 0, 0, 172, 120, 1379);
        fitting(x, 41, 1, 172, 1320, 0);
        fitting(x, 41, 1, 172, 1320, 60);
        fitting(x, 0, 1, 172, 1320, 61);
        fitting(x, 41, 1, 172, 1320, 1380);
        fitting(x, 0, 1, 172, 1320, 1379);
    }

    private static void dueFaults(LyingDials x, int dial, int... want) {
        for (int what = 0; what < want.length; what++) {
            int w = what;
            Kit.due("faults(" + dial + ", " + w + ")", want[w], () -> x.faults(dial, w));
        }
    }

    private static void tiltsThatFit() {
        Kit.says("TILTS (-20 to 20)");
        LyingDials x = Kit.of("swing 0;dial west 0 0 0;dial east 0 0 0;");
        int[][] rows = {{20, 1}, {-20, 1}, {21, 0}, {-21, 0}};
        for (int[] r : rows) {
            int tilt = r[0];
            x.read(0, 0, 820, 820 + tilt);
            x.read(0, 0, 920, 920 + 2 * tilt);
            x.read(1, 0, 620, 620 - tilt);
            x.read(1, 0, 520, 520 - 2 * tilt);
            for (int dial = 0; dial < 2; dial++) {
                int d = dial;
                if (r[1] == 1) {
                    dueFaults(x, d, 1, 0, 0, tilt, tilt);
                } else {
                    dueFaults(x, d, 0);
                }
            }
            for (int i = 0; i < 4; i++) {
                x.unread();
            }
        }
    }

    private static void whateverItHas() {
        Kit.says("(TOWN, KIND as they are; whatever TURN, TILT, MENDS it has)");
        LyingDials x = Kit.of("swing 0;dial west 120 50 -120;dial west -120 -50 -120;");
        x.mend(0, 0, 99);
        for (int dial = 0; dial < 2; dial++) {
            x.read(dial, 0, 820, 720 + 100 - 120);
            x.read(dial, 0, 1020, 720 + 300 - 120);
            dueFaults(x, dial, 1, 0, 0, 0, 0);
        }
    }

    private static void darkDoesNotFit() {
        Kit.says("one by which it would be DARK then doesn't FIT.");
        LyingDials x = Kit.of("swing 0;dial bowl 0 0 0;dial east 0 0 0;dial west 0 0 0;dial moon 0 0 0;"
                + "dial bowl 0 0 0 grown 5;dial painted 0 0 0 grown 0;cloud 9 700 700;");
        fitting(x, 41, 0, 0, 360, 360);
        fitting(x, 0, 0, 0, 359, 359);
        fitting(x, 41, 0, 0, 1080, 1080);
        fitting(x, 0, 0, 0, 1081, 1081);
        fitting(x, 0, 0, 9, 700, 700);
        fitting(x, 41, 0, 9, 701, 701);
        fitting(x, 41, 1, 0, 720, 720);
        fitting(x, 0, 1, 0, 721, 721);
        fitting(x, 41, 2, 0, 720, 720);
        fitting(x, 0, 2, 0, 719, 719);
        fitting(x, 41, 3, 15, 0, 720);
        fitting(x, 0, 3, 7, 1104, 720);
        fitting(x, 0, 3, 23, 336, 720);
        fitting(x, 41, 4, 4, 720, 720);
        fitting(x, 0, 4, 5, 720, 720);
        fitting(x, 41, 5, 364, 0, 720);
    }

    private static void darkCannonDoesNotFit() {
        Kit.says("A cannon tells 720, if what it would tell (as a bowl) is 720, else it is DARK.");
        LyingDials x = Kit.of("swing 0;dial cannon 0 0 0;");
        fitting(x, 41, 0, 0, 720, 720);
        fitting(x, 0, 0, 0, 720, 719);
        fitting(x, 0, 0, 0, 720, 721);
        fitting(x, 0, 0, 0, 721, 721);
        x.read(0, 0, 700, 720);
        dueFaults(x, 0, 41, 20, 20, -20, 20);
        x.read(0, 0, 701, 720);
        dueFaults(x, 0, 0);
    }

    private static void noReadings() {
        Kit.says("How many couples; the least and greatest TURN and TILT of them.");
        LyingDials x = Kit.of("dial east 0 0 0;dial west 0 0 0;dial bowl 0 0 0;dial moon 0 0 0;dial cannon 0 0 0;"
                + "dial painted 0 0 0;dial bowl 0 0 0 grown 0;");
        for (int dial = 0; dial < 7; dial++) {
            dueFaults(x, dial, ALL_COUPLES, -60, 60, -20, 20);
        }
    }

    private static void noneFits() {
        Kit.says("IllegalArgumentException: there is none (what 1 to 4). NoSuchElementException (ahead): also another"
                + " what.");
        LyingDials x = Kit.of("dial painted 0 0 0;");
        x.read(0, 0, 0, 0);
        Kit.due("none", 0, () -> x.faults(0, 0));
        for (int what = 1; what <= 4; what++) {
            int w = what;
            Kit.illegal("faults(0, " + w + ")", () -> x.faults(0, w));
        }
        Kit.none("what 5, ahead", () -> x.faults(0, 5));
        Kit.none("what -1, ahead", () -> x.faults(0, -1));
        Kit.none("DIAL 1, ahead", () -> x.faults(1, 1));
        x.unread();
        Kit.due("again some", -60, () -> x.faults(0, 1));
    }

    private static void readingsOfOthers() {
        Kit.says("it would tell all its READINGS");
        LyingDials x = Kit.of("dial painted 0 0 0;dial painted 0 0 0;");
        x.read(1, 0, 0, 0);
        x.read(0, 0, 0, 721);
        x.read(1, 0, 0, 0);
        x.read(0, 364, 1439, 721);
        dueFaults(x, 0, 41, 1, 1, -20, 20);
        x.read(0, 364, 1439, 722);
        dueFaults(x, 0, 0);
    }

    private static void dueNext(LyingDials x, int dial, int day, int minute, int group) {
        Kit.due("next(" + dial + ", " + day + ", 0)", minute, () -> x.next(dial, day, 0));
        Kit.due("next(" + dial + ", " + day + ", 1)", group, () -> x.next(dial, day, 1));
    }

    private static void nextFirstAndLastMinute() {
        Kit.says("NEXT on a DAY: of MINUTES 0, 15, 30 .. the one at which the greatest group");
        LyingDials x = Kit.of("swing 0;dial moon 0 0 0;dial painted 0 0 0;dial bowl 0 0 0;cloud 9 360 374;"
                + "cloud 10 360 375;cloud 11 0 1439;");
        // By AGE 22 the ANGLE is -351 at 1425: each TILT bends it 3.51 more, so 35 of them lie within 121 TURNS.
        dueNext(x, 0, 22, 1425, 35);
        dueNext(x, 0, 0, 0, ALL_COUPLES);
        dueNext(x, 1, 0, 0, 41);
        dueNext(x, 2, 8, 360, 41);
        dueNext(x, 2, 9, 375, 41);
        dueNext(x, 2, 10, 390, 41);
        dueNext(x, 2, 11, 0, ALL_COUPLES);
    }

    private static void nextOfLikeOnesTheLeast() {
        Kit.says("is least; of like ones the least.");
        LyingDials x = Kit.of("swing 0;dial west 0 0 0;dial bowl 0 0 0;");
        x.read(0, 0, 720, 720);
        // TURN 0, all TILTS: from 100 minutes off NOON on each tells by itself; 825 is the first such one.
        dueNext(x, 0, 0, 825, 1);
        x.read(0, 0, 820, 820);
        dueNext(x, 0, 0, 0, 1);
        x.read(1, 0, 720, 720);
        dueNext(x, 1, 0, 0, 41);
    }

    private static void nextGroupsAtTheirEnds() {
        Kit.says("the greatest group of FITTING couples that would tell like MINUTES");
        // On DAY 5 only 1020 is light: 300 behind NOON, TILTS bend it 120 apart, which TURNS just make up for.
        LyingDials x = Kit.of("swing 0;dial west 0 0 0;cloud 5 0 1019;cloud 5 1021 1439;");
        dueNext(x, 0, 5, 1020, 41);
        // 302 behind NOON they are 121 apart.
        LyingDials y = Kit.of("swing 0;dial west 0 0 0;cloud 5 0 1019;cloud 5 1021 1439;"
                + "limps -2 0 0 0 0 0 0 0 0 0 0 0;");
        dueNext(y, 0, 5, 1020, 40);
        // A MINUTE behind NOON, 20 TILTS tell 720 and 21 tell 721.
        LyingDials z = Kit.of("swing 0;dial west 0 0 0;cloud 5 736 1439;limps 14 0 0 0 0 0 0 0 0 0 0 0;");
        z.read(0, 5, 734, 720);
        dueNext(z, 0, 5, 735, 21);
    }

    private static void nextWithOneTurn() {
        Kit.says("the greatest group of FITTING couples that would tell like MINUTES");
        LyingDials x = Kit.of("swing 240;dial painted 0 0 0;dial bowl 0 0 0;dial west 0 0 0;dial east 0 0 0;");
        for (int turn : new int[] {-60, 60}) {
            x.read(0, 0, 0, 720 + turn);
            dueNext(x, 0, 0, 0, 41);
            x.read(1, 172, 720, 720 + turn);
            dueNext(x, 1, 172, 0, 41);
            x.unread();
            x.unread();
        }
        // One couple alone at the far end of both: it is a group of one in each MINUTE.
        x.read(2, 172, 820, 820 + 20 + 60);
        x.read(2, 172, 1320, 720 + 720 + 60 - 1440);
        dueNext(x, 2, 172, 0, 1);
        x.read(3, 172, 620, 620 - 20 - 60);
        x.read(3, 172, 120, 720 - 720 - 60 + 1440);
        dueNext(x, 3, 172, 0, 1);
    }

    private static void nextWhenNoneFits() {
        Kit.says("NONE of both: none FIT.");
        LyingDials x = Kit.of("dial painted 0 0 0;dial bowl 0 0 0;");
        x.read(0, 0, 0, 781);
        dueNext(x, 0, 0, -1, -1);
        dueNext(x, 0, 364, -1, -1);
        Kit.none("what 2, though none FIT", () -> x.next(0, 0, 2));
        Kit.none("what -1, though none FIT", () -> x.next(0, 0, -1));
        dueNext(x, 1, 0, 480, 41);
    }

    private static void nextGroupsOfACannon() {
        Kit.says("couples that would tell like MINUTES (or be DARK) is least");
        LyingDials x = Kit.of("swing 0;dial cannon 0 0 0;dial cannon 0 0 120;cloud 1 660 779;cloud 2 660 780;");
        dueNext(x, 0, 0, 660, ALL_COUPLES - 41);
        dueNext(x, 0, 1, 780, ALL_COUPLES - 41);
        dueNext(x, 0, 2, 0, ALL_COUPLES);
        dueNext(x, 1, 0, 540, ALL_COUPLES - 41);
        x.read(0, 0, 720, 720);
        dueNext(x, 0, 0, 0, 41);
    }

    private static void eachDialSeenOnce() {
        Kit.says("A DIAL is SEEN to tell a MINUTE: how many are SEEN. NONE (STATUS 2): it is SEEN already.");
        LyingDials x = Kit.of("dial painted 0 0 0;dial painted 0 0 0;");
        Kit.due("the first", 1, () -> x.see(1, 720));
        Kit.due("the same again", -1, () -> x.see(1, 720));
        Kit.due("STATUS 2", 1, () -> x.count(9));
        Kit.due("another MINUTE", -1, () -> x.see(1, 0));
        Kit.due("STATUS 2", 2, () -> x.count(9));
        Kit.due("the refused one counts for nothing", 1440, () -> x.minutes(0, 0));
        Kit.due("one SEEN", 1, () -> x.count(4));
        Kit.due("the other DIAL", 2, () -> x.see(0, 0));
        Kit.due("MINUTE 0 is one", 0, () -> x.minutes(0, 0));
    }

    private static void nineSeen() {
        Kit.says("SEEN: some DIALS told MINUTES, all in one true MINUTE (at most 9, one of each DIAL).");
        LyingDials x = Kit.of("swing 0;" + "dial bowl 0 0 0;".repeat(8) + "dial bowl 1 0 0;");
        for (int i = 0; i < 9; i++) {
            int dial = i;
            Kit.due("SEEN", dial + 1, () -> x.see(dial, dial < 8 ? 700 : 701));
        }
        for (int i = 0; i < 9; i++) {
            int dial = i;
            Kit.due("already", -1, () -> x.see(dial, 700));
        }
        Kit.due("STATUS 2", 9, () -> x.count(9));
        Kit.due("all nine count", 1, () -> x.minutes(0, 0));
        Kit.due("all nine count", 700, () -> x.minutes(0, 1));
        x.mend(8, 5, 2);
        Kit.due("the last one, too", 0, () -> x.minutes(5, 0));
        Kit.due("all are forgotten", 9, x::forget);
        Kit.due("and may be SEEN again", 1, () -> x.see(8, 0));
    }

    private static void forgetting() {
        Kit.says("Nothing is SEEN any more: how many were.");
        LyingDials x = Kit.of("dial painted 0 0 0;");
        Kit.due("none were", 0, x::forget);
        x.see(0, 5);
        Kit.due("one was", 1, x::forget);
        Kit.due("none are", 0, x::forget);
        Kit.due("none are", 0, () -> x.count(4));
        Kit.due("all fit", 1440, () -> x.minutes(0, 0));
    }

    private static void dueMinutes(LyingDials x, int day, int many, int least, int greatest) {
        int[] want = {many, least, greatest};
        for (int what = 0; what < 3; what++) {
            int w = what;
            Kit.due("minutes(" + day + ", " + w + ")", want[w], () -> x.minutes(day, w));
        }
    }

    private static void allMinutesFit() {
        Kit.says("TRUE MINUTES of a DAY that FIT: in which all these DIALS tell so: how many, the least, the"
                + " greatest.");
        LyingDials empty = new LyingDials();
        dueMinutes(empty, 0, 1440, 0, 1439);
        dueMinutes(empty, 364, 1440, 0, 1439);
        LyingDials x = Kit.of("dial painted 120 0 120;");
        dueMinutes(x, 0, 1440, 0, 1439);
        x.see(0, 960);
        dueMinutes(x, 0, 1440, 0, 1439);
        dueMinutes(x, 364, 1440, 0, 1439);
    }

    private static void noMinuteFits() {
        Kit.says("how many (what 0), the least (1), the greatest (2; NONE: none does).");
        LyingDials x = Kit.of("swing 0;dial painted 0 0 0;dial bowl 0 0 0;dial bowl 1 0 0;");
        x.see(0, 721);
        dueMinutes(x, 0, 0, -1, -1);
        x.forget();
        x.see(1, 359);
        dueMinutes(x, 0, 0, -1, -1);
        x.forget();
        x.see(1, 700);
        x.see(2, 700);
        dueMinutes(x, 0, 0, -1, -1);
        x.mend(2, 100, 0);
        dueMinutes(x, 99, 0, -1, -1);
        dueMinutes(x, 100, 1, 700, 700);
    }

    private static void minutesAtTheEnds() {
        Kit.says("TRUE MINUTES of a DAY that FIT");
        LyingDials x = Kit.of("swing 0;dial moon 0 0 0;dial moon 0 -50 0;dial west 0 -50 0;dial east 0 -50 0;"
                + "dial cannon 0 0 0;cloud 9 720 720;");
        int[][] rows = {{0, 720, 15, 1, 0, 0}, {0, 719, 15, 1, 1439, 1439}, {1, 720, 15, 3, 0, 1439},
            {1, 719, 15, 2, 1437, 1438}, {1, 721, 15, 2, 2, 3}, {2, 720, 0, 2, 720, 721}, {2, 720, 9, 1, 721, 721},
            {2, 900, 0, 1, 1080, 1080}, {3, 720, 0, 2, 719, 720}, {3, 720, 9, 1, 719, 719}, {3, 540, 0, 1, 360, 360},
            {4, 720, 0, 1, 720, 720}, {4, 720, 9, 0, -1, -1}, {4, 719, 0, 0, -1, -1}, {0, 1080, 8, 1, 24, 24},
            {0, 1081, 8, 0, -1, -1}, {0, 360, 22, 1, 1416, 1416}, {0, 359, 22, 0, -1, -1}};
        dueSeen(x, rows);
        // The widest light, and MINUTES told past midnight both ways.
        LyingDials y = Kit.of("swing 240;dial bowl 0 0 0;dial bowl 120 0 1;dial bowl -120 0 -1;dial east -120 50 -60;"
                + "dial west 120 50 60;dial moon 120 50 60;");
        dueSeen(y, new int[][] {{0, 120, 172, 1, 120, 120}, {0, 119, 172, 0, -1, -1}, {0, 1320, 172, 1, 1320, 1320},
            {0, 1321, 172, 0, -1, -1}, {1, 0, 172, 1, 1319, 1319}, {1, 1, 172, 1, 1320, 1320}, {1, 2, 172, 0, -1, -1},
            {1, 241, 172, 1, 120, 120}, {2, 1439, 172, 1, 120, 120}, {2, 0, 172, 1, 121, 121},
            {2, 1438, 172, 0, -1, -1}, {3, 1080, 172, 1, 120, 120}, {3, 1079, 172, 0, -1, -1},
            {4, 360, 172, 1, 1320, 1320}, {4, 361, 172, 0, -1, -1}, {5, 0, 338, 1, 24, 24}, {5, 1, 338, 0, -1, -1}});
    }

    /** Rows of a DIAL, the MINUTE that it is SEEN to tell, a DAY, and what minutes() answers of it. */
    private static void dueSeen(LyingDials x, int[][] rows) {
        for (int[] r : rows) {
            x.forget();
            x.see(r[0], r[1]);
            dueMinutes(x, r[2], r[3], r[4], r[5]);
        }
    }

    private static void dueDays(LyingDials x, int many, int day, int minute) {
        int[] want = {many, day, minute};
        for (int what = 0; what < 3; what++) {
            int w = what;
            Kit.due("days(" + w + ")", want[w], () -> x.days(w));
        }
    }

    private static void daysThatFit() {
        Kit.says("DAYS and MINUTES that FIT: how many of all 365 DAYS; the first.");
        LyingDials empty = new LyingDials();
        dueDays(empty, 365 * 1440, 0, 0);
        LyingDials x = Kit.of("swing 0;dial painted 0 0 0;dial bowl 0 0 0;");
        x.see(0, 720);
        dueDays(x, 365 * 1440, 0, 0);
        x.see(1, 360);
        dueDays(x, 365, 0, 360);
        x.forget();
        x.see(0, 719);
        dueDays(x, 0, -1, -1);
    }

    private static void firstAndLastDay() {
        Kit.says("how many (what 0), the first's DAY (1), MINUTE (2; NONE: none do).");
        LyingDials x = Kit.of("swing 0;dial bowl 0 0 0;dial bowl 1 0 0;dial bowl 0 0 0 grown 1;cloud 0 699 699;");
        x.mend(1, 364, 0);
        x.see(0, 700);
        x.see(1, 700);
        // Both tell 700 in one MINUTE only from the MEND on.
        dueDays(x, 1, 364, 700);
        x.see(2, 700);
        dueDays(x, 0, -1, -1);
        x.forget();
        x.see(2, 700);
        dueDays(x, 1, 0, 700);
        x.forget();
        x.see(2, 699);
        dueDays(x, 0, -1, -1);
    }

    private static void late(LyingDials x, int[]... rows) {
        for (int[] r : rows) {
            Kit.due(Kit.asked("late", r), r[4], () -> x.late(r[0], r[1], r[2], r[3]));
        }
    }

    private static void firstMinuteOfAMeeting() {
        Kit.says("on a DAY each comes in the first true MINUTE in which his DIAL tells x.");
        LyingDials x = Kit.of("swing 0;dial west 0 -50 0;dial moon 0 -50 0;dial painted 0 0 0;dial bowl 0 0 0;"
                + "cloud 9 720 720;");
        // The moon tells 720 at 0, 1 and 1439 on DAY 15; the west one at 720 and 721.
        late(x, new int[][] {{0, 2, 720, 0, 720}, {0, 2, 720, 9, 721}, {1, 2, 720, 15, 0}, {1, 0, 720, 15, 720},
            {3, 2, 720, 0, 720}, {0, 3, 720, 0, 0}, {0, 0, 720, 0, 0}, {2, 2, 720, 364, 0}});
    }

    private static void meetingThatCanNotBe() {
        Kit.says("It CAN be, if both do.");
        Kit.says("LATE on a DAY; NONE: the MEETING can't be.");
        LyingDials x = Kit.of("swing 0;dial bowl 0 0 0;dial painted 0 0 0;dial bowl 0 0 0 grown 100;dial cannon 0 0 0;"
                + "cloud 9 720 720;");
        late(x, new int[][] {{0, 0, 359, 0, -1}, {0, 0, 360, 0, 0}, {0, 0, 1080, 0, 0}, {0, 0, 1081, 0, -1},
            {1, 0, 721, 0, -1}, {0, 1, 721, 0, -1}, {0, 2, 700, 99, 0}, {0, 2, 700, 100, -1}, {2, 0, 700, 100, -1},
            {3, 1, 720, 8, 720}, {3, 1, 720, 9, -1}, {3, 3, 721, 8, -1}, {0, 0, 0, 0, -1}, {0, 0, 1439, 0, -1}});
    }

    private static void lateIsNotTheShorterWay() {
        Kit.says("LATE: how far both are from one another.");
        LyingDials x = Kit.of("swing 0;dial moon 0 0 0;dial painted 0 0 0;dial moon 1 0 0;");
        // By the painted one at 0, by the moon at 1392 on DAY 14, at 0 on DAY 15, at 48 on DAY 16.
        late(x, new int[][] {{0, 1, 720, 14, 1392}, {1, 0, 720, 14, 1392}, {0, 1, 720, 15, 0}, {0, 1, 720, 16, 48},
            {0, 2, 720, 15, 1439}, {2, 0, 720, 15, 1439}, {2, 0, 720, 14, 1}});
    }

    private static void meets(LyingDials x, int[]... rows) {
        for (int[] r : rows) {
            Kit.due(Kit.asked("meet", r), r[5], () -> x.meet(r[0], r[1], r[2], r[3], r[4]));
        }
    }

    private static void meetingsToTheLastDay() {
        Kit.says("From a DAY on to 364: the first on which it CAN be");
        Kit.says("the one by which LATE is least (1); NONE: none.");
        LyingDials x = Kit.of("swing 0;dial bowl 0 0 0;dial bowl 0 0 0 grown 364;cloud 364 600 600;cloud 5 600 700;"
                + "dial bowl 0 0 0 grown 0;");
        meets(x, new int[][] {{0, 1, 700, 0, 0, 0}, {0, 1, 700, 5, 0, 6}, {0, 1, 700, 5, 1, 6}, {0, 1, 700, 363, 0, 363},
            {0, 1, 700, 363, 1, 363}, {0, 1, 700, 364, 0, -1}, {0, 1, 700, 364, 1, -1}, {0, 0, 700, 364, 0, 364},
            {0, 0, 700, 364, 1, 364}, {0, 0, 600, 364, 0, -1}, {0, 0, 600, 363, 0, 363}, {0, 2, 700, 0, 0, -1},
            {0, 2, 700, 0, 1, -1}, {2, 0, 700, 0, 1, -1}});
    }

    private static void meetingsOfLikeOnesTheFirst() {
        Kit.says("the one by which LATE is least, of like ones the first.");
        LyingDials x = Kit.of("swing 0;dial bowl 0 0 0;dial bowl 5 0 0;");
        meets(x, new int[][] {{0, 1, 700, 0, 1, 0}, {0, 1, 700, 77, 1, 77}});
        x.mend(1, 100, 1);
        x.mend(1, 200, -1);
        x.mend(1, 300, 2);
        // 5 apart, from 100 on 1, from 300 on 2.
        meets(x, new int[][] {{0, 1, 700, 0, 0, 0}, {0, 1, 700, 0, 1, 100}, {0, 1, 700, 99, 1, 100},
            {0, 1, 700, 101, 1, 101}, {0, 1, 700, 200, 1, 200}, {0, 1, 700, 299, 1, 299}, {0, 1, 700, 300, 1, 300}});
        x.mend(1, 364, 0);
        meets(x, new int[][] {{0, 1, 700, 0, 1, 364}, {0, 1, 700, 0, 0, 0}});
    }
}
