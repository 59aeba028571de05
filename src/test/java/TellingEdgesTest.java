/** What a DIAL tells, and when it is DARK (terms under 2): each sentence that names an edge, at the edge and past it. */
public final class TellingEdgesTest {
    private static final int DARK = -1;

    private TellingEdgesTest() {
    }

    public static void main(String[] args) {
        months();
        half();
        halfIsCutDownToNought();
        sunNoFartherThanHalf();
        widestAndNarrowestLight();
        clouds();
        manyClouds();
        grownOver();
        cutDownToNought();
        roundTheDay();
        eastAndWest();
        bowlWithoutTilt();
        cannon();
        cannonWithoutSun();
        moonsAge();
        moonByNight();
        moonWhateverClouds();
        moonGoesRound();
        moonsReach();
        moonIsToldAsAbove();
        painted();
        turnByMends();
        lastMendAsTheyWereDone();
        Kit.end();
    }

    /** Rows of a DIAL, a DAY, a MINUTE and what is due. */
    private static void tells(LyingDials x, int[]... rows) {
        for (int[] r : rows) {
            Kit.due(Kit.asked("tells", r), r[3], () -> x.tells(r[0], r[1], r[2]));
        }
    }

    private static void days(LyingDials x, int what, int[]... rows) {
        for (int[] r : rows) {
            Kit.due("day(" + r[0] + ", " + what + ")", r[1], () -> x.day(r[0], what));
        }
    }

    private static void months() {
        Kit.says("DAYS are 0 to 364, the MONTH of DAY n is n by 31, cut down; MINUTES 0 to 1439.");
        Kit.says("NOON of a DAY is 720 and the LIMP of its MONTH.");
        LyingDials x = Kit.of("limps -30 -25 -20 -15 -10 -5 1 5 10 15 20 30;");
        int[] noons = {690, 695, 700, 705, 710, 715, 721, 725, 730, 735, 740, 750};
        for (int month = 0; month < 12; month++) {
            days(x, 0, new int[] {31 * month, noons[month]}, new int[] {Math.min(364, 31 * month + 30), noons[month]});
        }
        LyingDials without = Kit.of("");
        days(without, 0, new int[] {0, 720}, new int[] {364, 720});
    }

    private static void half() {
        Kit.says("HALF a day's light is 360 and SWING by (91 less how far the DAY is from DAY 172, if that is at most"
                + " 182, else 365 less that), by 91");
        LyingDials x = Kit.of("swing 91;");
        days(x, 1, new int[][] {{172, 451}, {171, 450}, {173, 450}, {82, 361}, {81, 360}, {80, 359}, {262, 361},
            {263, 360}, {264, 359}, {0, 279}, {1, 280}, {353, 270}, {354, 269}, {355, 269}, {356, 270}, {363, 277},
            {364, 278}});
        LyingDials most = Kit.of("swing 240;");
        days(most, 1, new int[][] {{172, 600}, {354, 120}, {355, 120}, {81, 360}, {263, 360}});
        LyingDials none = Kit.of("swing 0;");
        days(none, 1, new int[][] {{172, 360}, {354, 360}, {0, 360}, {364, 360}});
        LyingDials without = Kit.of("");
        days(without, 1, new int[][] {{172, 480}, {354, 240}, {355, 240}});
    }

    private static void halfIsCutDownToNought() {
        Kit.says("by 91, cut down to 0.");
        LyingDials x = Kit.of("swing 90;");
        days(x, 1, new int[][] {{82, 360}, {81, 360}, {80, 360}, {79, 359}, {83, 361}});
        LyingDials y = Kit.of("swing 1;");
        days(y, 1, new int[][] {{172, 361}, {171, 360}, {353, 360}, {354, 359}, {355, 359}, {356, 360}});
        LyingDials z = Kit.of("swing 100;");
        days(z, 1, new int[][] {{82, 361}, {80, 359}, {73, 352}});
    }

    private static void sunNoFartherThanHalf() {
        Kit.says("THE SUN is there in MINUTES that are no farther from NOON than HALF");
        LyingDials x = Kit.of("swing 0;limps 5 0 0 0 0 0 0 0 0 0 0 -5;dial bowl 0 0 0;");
        tells(x, new int[][] {{0, 0, 364, DARK}, {0, 0, 365, 360}, {0, 0, 1085, 1080}, {0, 0, 1086, DARK},
            {0, 31, 359, DARK}, {0, 31, 360, 360}, {0, 31, 1080, 1080}, {0, 31, 1081, DARK}, {0, 364, 354, DARK},
            {0, 364, 355, 360}, {0, 364, 1075, 1080}, {0, 364, 1076, DARK}, {0, 0, 0, DARK}, {0, 0, 1439, DARK}});
    }

    private static void widestAndNarrowestLight() {
        Kit.says("THE SUN is there in MINUTES that are no farther from NOON than HALF");
        LyingDials x = Kit.of("swing 240;limps 0 0 0 0 0 -30 0 0 0 0 0 30;dial bowl 0 0 0;");
        // DAY 172: NOON 690, HALF 600; DAY 354: NOON 750, HALF 120.
        tells(x, new int[][] {{0, 172, 89, DARK}, {0, 172, 90, 120}, {0, 172, 1290, 1320}, {0, 172, 1291, DARK},
            {0, 354, 629, DARK}, {0, 354, 630, 600}, {0, 354, 870, 840}, {0, 354, 871, DARK}});
        LyingDials y = Kit.of("swing 240;limps 0 0 0 0 0 30 0 0 0 0 0 -30;dial bowl 0 0 0;");
        tells(y, new int[][] {{0, 172, 149, DARK}, {0, 172, 150, 120}, {0, 172, 1350, 1320}, {0, 172, 1351, DARK},
            {0, 355, 569, DARK}, {0, 355, 570, 600}, {0, 355, 810, 840}, {0, 355, 811, DARK}});
    }

    private static void clouds() {
        Kit.says("if no CLOUD of that DAY is there then.");
        LyingDials x = Kit.of("swing 0;dial bowl 0 0 0;dial east 0 0 0;dial west 0 0 0;cloud 0 0 1439;cloud 9 700 700;"
                + "cloud 20 700 730;cloud 364 1080 1439;cloud 364 0 360;cloud 363 1081 1439;cloud 363 0 359;");
        tells(x, new int[][] {{0, 0, 360, DARK}, {0, 0, 720, DARK}, {0, 0, 1080, DARK}, {0, 1, 720, 720},
            {0, 9, 699, 699}, {0, 9, 700, DARK}, {0, 9, 701, 701}, {0, 8, 700, 700}, {0, 10, 700, 700},
            {0, 20, 699, 699}, {0, 20, 700, DARK}, {0, 20, 730, DARK}, {0, 20, 731, 731}, {1, 20, 699, 699},
            {1, 20, 720, DARK}, {2, 20, 720, DARK}, {2, 20, 730, DARK}, {2, 20, 731, 731}, {0, 364, 360, DARK},
            {0, 364, 361, 361}, {0, 364, 1079, 1079}, {0, 364, 1080, DARK}, {0, 363, 360, 360}, {0, 363, 1080, 1080}});
    }

    private static void manyClouds() {
        Kit.says("CLOUDS (at most 20)");
        StringBuilder text = new StringBuilder("swing 0;dial bowl 0 0 0;");
        for (int i = 0; i < 20; i++) {
            text.append("cloud ").append(i % 2 == 0 ? 364 : 0).append(' ').append(500 + i).append(' ')
                    .append(500 + i).append(';');
        }
        LyingDials x = Kit.of(text.toString());
        for (int minute = 499; minute <= 520; minute++) {
            boolean there = minute >= 500 && minute < 520;
            tells(x, new int[] {0, 364, minute, there && minute % 2 == 0 ? DARK : minute},
                    new int[] {0, 0, minute, there && minute % 2 == 1 ? DARK : minute});
        }
        StringBuilder oneDay = new StringBuilder("swing 0;dial bowl 0 0 0;");
        for (int i = 0; i < 20; i++) {
            oneDay.append("cloud 5 ").append(500 + 2 * i).append(' ').append(500 + 2 * i).append(';');
        }
        LyingDials y = Kit.of(oneDay.toString());
        for (int minute = 499; minute <= 540; minute++) {
            boolean there = minute >= 500 && minute <= 538 && minute % 2 == 0;
            tells(y, new int[] {0, 5, minute, there ? DARK : minute}, new int[] {0, 4, minute, minute},
                    new int[] {0, 6, minute, minute});
        }
        Kit.due("20 MINUTES of that DAY", 721 - 20, () -> y.takes(0, 5) - y.takes(0, 6));
    }

    private static void grownOver() {
        Kit.says("It is DARK on DAYS on which it is GROWN over.");
        LyingDials x = Kit.of("swing 0;dial east 0 0 0 grown 100;dial west 0 0 0 grown 100;dial bowl 0 0 0 grown 100;"
                + "dial cannon 0 0 0 grown 100;dial moon 0 0 0 grown 15;dial bowl 0 0 0 grown 0;"
                + "dial bowl 0 0 0 grown 364;");
        for (int dial = 0; dial < 4; dial++) {
            tells(x, new int[] {dial, 99, 720, 720}, new int[] {dial, 100, 720, DARK},
                    new int[] {dial, 101, 720, DARK}, new int[] {dial, 364, 720, DARK});
        }
        tells(x, new int[][] {{4, 14, 1392, 720}, {4, 15, 0, DARK}, {5, 0, 720, DARK}, {5, 364, 720, DARK},
            {6, 0, 720, 720}, {6, 363, 720, 720}, {6, 364, 720, DARK}});
    }

    private static void cutDownToNought() {
        Kit.says("told is 720, and THE ANGLE by (100 and TILT) by 100, cut down to 0");
        LyingDials x = Kit.of("swing 0;dial west 0 -50 0;dial east 0 -50 0;dial west 0 50 0;dial east 0 50 0;"
                + "dial west 0 -1 0;dial east 0 -1 0;dial west 0 1 0;dial east 0 1 0;");
        tells(x, new int[][] {{0, 0, 720, 720}, {0, 0, 721, 720}, {0, 0, 722, 721}, {0, 0, 723, 721}, {1, 0, 720, 720},
            {1, 0, 719, 720}, {1, 0, 718, 719}, {1, 0, 717, 719}, {2, 0, 721, 721}, {2, 0, 722, 723}, {2, 0, 723, 724},
            {3, 0, 719, 719}, {3, 0, 718, 717}, {3, 0, 717, 716}, {4, 0, 721, 720}, {4, 0, 820, 819}, {4, 0, 821, 819},
            {5, 0, 719, 720}, {5, 0, 620, 621}, {5, 0, 619, 621}, {6, 0, 819, 819}, {6, 0, 820, 821}, {7, 0, 621, 621},
            {7, 0, 620, 619}, {0, 0, 1080, 900}, {1, 0, 360, 540}, {2, 0, 1080, 1260}, {3, 0, 360, 180}});
    }

    private static void roundTheDay() {
        Kit.says("and TURN and TOWN, MOD 1440 (0 to 1439).");
        // On DAY 172 the ANGLE is -600 at 120 and 600 at 1320; the TILT makes 900 of it.
        LyingDials x = Kit.of("swing 240;dial east 120 50 60;dial east 119 50 60;dial west -120 50 -60;"
                + "dial west -120 50 -61;dial east -120 50 -120;dial west 120 50 120;dial east 120 50 61;"
                + "dial west -120 50 -59;");
        tells(x, new int[][] {{0, 172, 120, 0}, {1, 172, 120, 1439}, {2, 172, 1320, 0}, {3, 172, 1320, 1439},
            {4, 172, 120, 1020}, {5, 172, 1320, 420}, {6, 172, 120, 1}, {7, 172, 1320, 1}});
        LyingDials y = Kit.of("swing 240;dial bowl -60 0 -60;dial bowl -60 0 -61;dial bowl 60 0 60;dial bowl 60 0 59;");
        tells(y, new int[][] {{0, 172, 120, 0}, {1, 172, 120, 1439}, {2, 172, 1320, 0}, {3, 172, 1320, 1439}});
    }

    private static void eastAndWest() {
        Kit.says("East: also behind NOON; west: also ahead of NOON.");
        LyingDials x = Kit.of("swing 0;limps 7 -7 0 0 0 0 0 0 0 0 0 0;dial east 0 0 0;dial west 0 0 0;");
        tells(x, new int[][] {{0, 0, 726, 719}, {0, 0, 727, 720}, {0, 0, 728, DARK}, {1, 0, 726, DARK},
            {1, 0, 727, 720}, {1, 0, 728, 721}, {0, 31, 713, 720}, {0, 31, 714, DARK}, {1, 31, 712, DARK},
            {1, 31, 713, 720}, {0, 0, 367, 360}, {0, 0, 366, DARK}, {1, 0, 1087, 1080}, {1, 0, 1088, DARK}});
    }

    private static void bowlWithoutTilt() {
        Kit.says("A bowl has no TILT (it counts for nothing).");
        LyingDials x = Kit.of("swing 0;dial bowl 3 50 0;dial bowl 3 -50 0;");
        for (int dial = 0; dial < 2; dial++) {
            tells(x, new int[][] {{dial, 0, 360, 363}, {dial, 0, 719, 722}, {dial, 0, 721, 724},
                {dial, 0, 1080, 1083}});
        }
        Kit.due("the text's TILT is told all the same", 50, () -> x.dial(0, 2));
    }

    private static void cannon() {
        Kit.says("A cannon tells 720, if what it would tell (as a bowl) is 720, else it is DARK.");
        LyingDials x = Kit.of("swing 0;dial cannon 0 50 0;dial cannon 120 -50 120;dial cannon -120 50 -120;"
                + "dial cannon 5 0 -5;limps 0 4 0 0 0 0 0 0 0 0 0 0;");
        tells(x, new int[][] {{0, 0, 719, DARK}, {0, 0, 720, 720}, {0, 0, 721, DARK}, {1, 0, 479, DARK},
            {1, 0, 480, 720}, {1, 0, 481, DARK}, {2, 0, 959, DARK}, {2, 0, 960, 720}, {2, 0, 961, DARK},
            {3, 0, 720, 720}, {0, 31, 720, DARK}, {0, 31, 724, 720}, {0, 31, 725, DARK}});
    }

    private static void cannonWithoutSun() {
        Kit.says("East, west, bowl, cannon: DARK without THE SUN.");
        // On DAY 354 HALF is 120.
        LyingDials x = Kit.of("swing 240;dial cannon 60 0 60;dial cannon 60 0 61;dial cannon -60 0 -60;"
                + "dial cannon -61 0 -60;cloud 353 600 600;");
        tells(x, new int[][] {{0, 354, 600, 720}, {1, 354, 599, DARK}, {2, 354, 840, 720}, {3, 354, 841, DARK},
            {0, 353, 600, DARK}, {0, 352, 600, 720}});
    }

    private static void moonsAge() {
        Kit.says("Moon: AGE is the DAY MOD 30; DARK, if AGE is not 8 to 22");
        LyingDials x = Kit.of("swing 0;dial moon 0 0 0;");
        // Its noon is at 1104 by AGE 8, at 336 by AGE 22; by AGE 7 it would be at 1056, by AGE 23 at 384.
        for (int month = 0; month < 12; month++) {
            int day = 30 * month;
            tells(x, new int[][] {{0, day, 1100, DARK}, {0, day + 7, 1104, DARK}, {0, day + 7, 0, DARK},
                {0, day + 8, 1104, 720}, {0, day + 15, 0, 720}, {0, day + 22, 336, 720}, {0, day + 23, 336, DARK},
                {0, day + 23, 0, DARK}, {0, day + 29, 336, DARK}});
        }
        tells(x, new int[][] {{0, 364, 1104, DARK}, {0, 364, 0, DARK}});
    }

    private static void moonByNight() {
        Kit.says("or the MINUTE is no farther from NOON than HALF (whatever CLOUDS)");
        LyingDials x = Kit.of("swing 0;limps 0 0 0 0 0 0 0 0 0 0 0 30;dial moon 0 0 0;");
        tells(x, new int[][] {{0, 15, 359, 1079}, {0, 15, 360, DARK}, {0, 15, 720, DARK}, {0, 15, 1080, DARK},
            {0, 15, 1081, 361}, {0, 352, 389, 773}, {0, 352, 390, DARK}, {0, 345, 1110, DARK}, {0, 345, 1111, 391}});
        // DAY 172 has AGE 22 and HALF 600, DAY 165 AGE 15 and HALF 581.
        LyingDials y = Kit.of("swing 240;dial moon 0 0 0;");
        tells(y, new int[][] {{0, 172, 119, 503}, {0, 172, 120, DARK}, {0, 172, 1416, 360}, {0, 165, 1301, DARK},
            {0, 165, 1302, 582}});
    }

    private static void moonWhateverClouds() {
        Kit.says("is no farther from NOON than HALF (whatever CLOUDS)");
        LyingDials x = Kit.of("swing 0;dial moon 0 0 0;cloud 15 0 1439;cloud 8 1104 1104;");
        tells(x, new int[][] {{0, 15, 0, 720}, {0, 15, 1439, 719}, {0, 15, 360, DARK}, {0, 15, 720, DARK},
            {0, 8, 1104, 720}});
    }

    private static void moonGoesRound() {
        Kit.says("THE ANGLE is the MINUTE less 720 and 48 by AGE, as far as it goes round from -720 to 719");
        LyingDials x = Kit.of("swing 0;dial moon 0 0 0;");
        tells(x, new int[][] {{0, 14, 1391, 719}, {0, 14, 1392, 720}, {0, 14, 1439, 767}, {0, 14, 0, 768},
            {0, 15, 1439, 719}, {0, 15, 0, 720}, {0, 15, 1, 721}, {0, 16, 1439, 671}, {0, 16, 0, 672},
            {0, 16, 48, 720}, {0, 16, 47, 719}});
    }

    private static void moonsReach() {
        Kit.says("DARK, if it is farther from 0 than 360");
        LyingDials x = Kit.of("swing 0;dial moon 0 0 0;");
        tells(x, new int[][] {{0, 8, 23, 1079}, {0, 8, 24, 1080}, {0, 8, 25, DARK}, {0, 9, 72, 1080},
            {0, 9, 73, DARK}, {0, 22, 1415, DARK}, {0, 22, 1416, 360}, {0, 22, 1417, 361}, {0, 21, 1367, DARK},
            {0, 21, 1368, 360}});
    }

    private static void moonIsToldAsAbove() {
        Kit.says("else as told above by this ANGLE.");
        LyingDials x = Kit.of("swing 0;dial moon 120 50 60;dial moon 120 50 59;dial moon -120 50 -60;"
                + "dial moon -120 50 -61;dial moon 0 -50 0;dial moon 120 50 120;dial moon -120 50 -120;");
        // ANGLE 360 at 24 on DAY 8, -360 at 1416 on DAY 22: 540 by the TILT.
        tells(x, new int[][] {{0, 8, 24, 0}, {1, 8, 24, 1439}, {2, 22, 1416, 0}, {3, 22, 1416, 1439},
            {4, 15, 1438, 719}, {4, 15, 1439, 720}, {4, 15, 0, 720}, {4, 15, 1, 720}, {4, 15, 2, 721},
            {5, 8, 24, 60}, {6, 22, 1416, 1380}});
    }

    private static void painted() {
        Kit.says("Painted: it tells 720 and TURN and TOWN, MOD 1440, always (GROWN over never).");
        LyingDials x = Kit.of("dial painted 120 50 120 grown 0;dial painted -120 -50 -120;dial painted 0 0 0;"
                + "cloud 0 0 1439;cloud 364 0 1439;");
        int[] told = {960, 480, 720};
        for (int dial = 0; dial < 3; dial++) {
            for (int day : new int[] {0, 1, 172, 364}) {
                tells(x, new int[][] {{dial, day, 0, told[dial]}, {dial, day, 720, told[dial]},
                    {dial, day, 1439, told[dial]}});
            }
        }
    }

    private static void turns(LyingDials x, int dial, int[]... rows) {
        for (int[] r : rows) {
            Kit.due("turn(" + dial + ", " + r[0] + ")", r[1], () -> x.turn(dial, r[0]));
        }
    }

    private static void turnByMends() {
        Kit.says("TURN of a DIAL on a DAY: as told, or by the last MEND of it");
        LyingDials x = Kit.of("swing 0;dial bowl 7 0 0;dial bowl 8 0 0;");
        turns(x, 0, new int[][] {{0, 7}, {364, 7}});
        x.mend(0, 364, 120);
        turns(x, 0, new int[][] {{0, 7}, {363, 7}, {364, 120}});
        tells(x, new int[][] {{0, 363, 720, 727}, {0, 364, 720, 840}});
        x.undo();
        turns(x, 0, new int[][] {{364, 7}});
        x.mend(0, 0, -120);
        turns(x, 0, new int[][] {{0, -120}, {364, -120}});
        turns(x, 1, new int[][] {{0, 8}, {364, 8}});
        tells(x, new int[][] {{0, 0, 720, 600}, {1, 0, 720, 728}});
        Kit.due("as the text told", 7, () -> x.dial(0, 1));
    }

    private static void lastMendAsTheyWereDone() {
        Kit.says("(in the order in which they were done) on a DAY no later.");
        LyingDials x = Kit.of("dial bowl 7 0 0;dial bowl 8 0 0;");
        x.mend(0, 100, 10);
        x.mend(0, 50, 20);
        turns(x, 0, new int[][] {{49, 7}, {50, 20}, {99, 20}, {100, 20}, {364, 20}});
        x.mend(0, 100, 30);
        turns(x, 0, new int[][] {{49, 7}, {50, 20}, {99, 20}, {100, 30}});
        x.mend(0, 100, 40);
        x.mend(1, 100, 50);
        turns(x, 0, new int[][] {{99, 20}, {100, 40}});
        turns(x, 1, new int[][] {{99, 8}, {100, 50}});
        x.undo();
        x.undo();
        turns(x, 0, new int[][] {{100, 30}});
        x.undo();
        x.undo();
        turns(x, 0, new int[][] {{50, 7}, {99, 7}, {100, 10}});
    }
}
