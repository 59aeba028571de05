/** Each promise by itself; the due answers were worked out by hand from the document. */
public final class PromiseTest {
    /** Dials: 0 bowl (2 late), 1 east, 2 west, 3 painted at 690, 4 cannon (fires 10 ahead of noon), 5 moon. */
    private static final String SIX = "dial bowl 5 40 -3;dial east 0 0 0;dial west 0 0 0;dial painted 30 0 -60;"
            + "dial cannon 10 50 0;dial moon 0 0 0;";
    private static final int MIN = Integer.MIN_VALUE;
    private static final int MAX = Integer.MAX_VALUE;

    private PromiseTest() {
    }

    public static void main(String[] args) {
        newObject();
        feed();
        port();
        portIsAllAnew();
        portKeepsAllWithAFault();
        law();
        lawful();
        judged();
        fault();
        count();
        dial();
        day();
        tellsBySun();
        tellsByMoonAndOthers();
        tellsBehindManyClouds();
        turn();
        read();
        faults();
        next();
        see();
        minutes();
        days();
        late();
        meet();
        mend();
        best();
        year();
        live();
        middle();
        together();
        takes();
        image();
        Kit.end();
    }

    private static void newObject() {
        LyingDials x = new LyingDials();
        for (int what = 0; what <= 10; what++) {
            int w = what;
            Kit.due("new count " + w, w == 1 ? 120 : 0, () -> x.count(w));
        }
        for (int month = 0; month < 12; month++) {
            int w = 20 + month;
            Kit.due("new count " + w, 0, () -> x.count(w));
        }
        Kit.none("new dial", () -> x.dial(0, 0));
        Kit.none("new tells", () -> x.tells(0, 0, 0));
        Kit.due("new fault", -1, x::fault);
        Kit.due("new live", -1, () -> x.live(0));
        Kit.due("new together", -1, () -> x.together(0, 0));
        Kit.due("new together", 0, () -> x.together(0, 1));
        Kit.illegal("new lawful", () -> x.lawful(0, 0));
        Kit.same("new restore", false, x.restore());
        Kit.same("NONE", -1, LyingDials.NONE);
    }

    private static void feed() {
        LyingDials x = new LyingDials();
        for (int i = 1; i <= 35; i++) {
            int many = 20 * i;
            Kit.due("feed", many, () -> x.feed(0x20202020, 0x20202020, 0x20202020, 0x20202020, 0x20202020));
        }
        Kit.due("a full tape", -1, () -> x.feed(0, 0, 0, 0, 0));
        Kit.due("it stays", 700, () -> x.count(6));
        Kit.due("700 blanks", 0, () -> x.port(700));
        Kit.due("empty", 0, () -> x.count(6));
        x.feed(0x6469616c, 0x20626f77, 0x6c203520, 0x30202d33, 0x3b202020);
        Kit.due("highest first", 0, () -> x.port(20));
        Kit.due("its turn", 5, () -> x.dial(0, 1));
        Kit.due("its town", -3, () -> x.dial(0, 3));
        x.feed(0x20a0ff80, 0, 0, 0, 0);
        Kit.due("bytes above 127", 1, () -> x.port(20));
        Kit.due("the first of them", 1, x::fault);
        x.feed(0x20202000, 0, 0, 0, 0);
        Kit.due("byte 0", 1, () -> x.port(20));
        Kit.due("byte 0", 3, x::fault);
    }

    private static void port() {
        LyingDials x = Kit.of(SIX);
        Kit.due("dials", 6, () -> x.count(0));
        x.feed(0x20202020, 0x20202020, 0x20202020, 0x20202020, 0x20202020);
        Kit.illegal("more than the tape", () -> x.port(21));
        Kit.illegal("below 0", () -> x.port(-1));
        Kit.illegal("far below 0", () -> x.port(MIN));
        Kit.illegal("far above", () -> x.port(MAX));
        Kit.due("nothing changes", 20, () -> x.count(6));
        Kit.due("nothing changes", 6, () -> x.count(0));
        Kit.due("nor is it refused", 0, () -> x.count(7));
        x.read(0, 0, 700, 702);
        x.see(0, 702);
        x.mend(0, 0, 1);
        x.image();
        Kit.law(x, "dial 0");
        for (int i = 0; i < 3; i++) {
            x.see(0, 1);
        }
        Kit.feed(x, "swing 10;limps 1 2 3 4 5 6 7 8 9 10 11 12;cloud 5 6 7;dial moon 1 2 3;");
        Kit.due("a port", 0, () -> x.port(42));
        Kit.due("the tape is empty", 0, () -> x.count(6));
        Kit.due("dials", 0, () -> x.count(0));
        Kit.due("swing", 10, () -> x.count(1));
        Kit.due("clouds", 0, () -> x.count(2));
        Kit.due("limps", 12, () -> x.count(31));
        for (int what = 3; what <= 5; what++) {
            int w = what;
            Kit.due("gone " + w, 0, () -> x.count(w));
        }
        Kit.due("STATUS stays", 3, () -> x.count(9));
        Kit.same("no image", false, x.restore());
        Kit.illegal("no law", () -> x.lawful(0, 0));
        Kit.due("an empty port", 0, () -> x.port(0));
        Kit.due("swing without", 120, () -> x.count(1));
        Kit.due("limps without", 0, () -> x.count(31));
    }

    /** Whatever earlier texts told, faulty ones too, a port is all anew. */
    private static void portIsAllAnew() {
        LyingDials x = new LyingDials();
        String full = "swing 9;limps 1 1 1 1 1 1 1 1 1 1 1 1;cloud 0 0 1439;dial bowl 1 1 1 grown 1;";
        for (int i = 0; i < 3; i++) {
            Kit.port(x, full);
            Kit.port(x, full + "sun");
            Kit.due("a port", 0, () -> Kit.port(x, "dial bowl 0 0 0;cloud 1 0 900;"));
            Kit.due("dials", 1, () -> x.count(0));
            Kit.due("swing", 120, () -> x.count(1));
            Kit.due("clouds", 1, () -> x.count(2));
            Kit.due("limps", 0, () -> x.count(20));
            Kit.due("grown", -1, () -> x.dial(0, 4));
            Kit.due("no cloud", 700, () -> x.tells(0, 0, 700));
            Kit.due("not grown", 700, () -> x.tells(0, 364, 700));
        }
    }

    private static void portKeepsAllWithAFault() {
        LyingDials x = Kit.of(SIX + "swing 7;limps 1 1 1 1 1 1 1 1 1 1 1 1;cloud 9 1 2;");
        Kit.law(x, "dial 3");
        x.read(0, 0, 700, 702);
        x.see(0, 702);
        x.mend(0, 0, 1);
        x.image();
        Kit.due("a fault", 1, () -> Kit.port(x, "swing 100;limps 2 2 2 2 2 2 2 2 2 2 2 2;dial bowl 1 1 1;sun"));
        Kit.due("the tape is empty", 0, () -> x.count(6));
        int[] want = {6, 7, 1, 1, 1, 1, 0, 1, 0, 0, 0};
        for (int what = 0; what < want.length; what++) {
            int w = what;
            Kit.due("stays " + w, want[w], () -> x.count(w));
        }
        Kit.due("limps stay", 1, () -> x.count(20));
        Kit.due("the law stays", 690, () -> x.lawful(0, 0));
        Kit.same("the image stays", true, x.restore());
    }

    private static void law() {
        LyingDials x = Kit.of(SIX);
        Kit.feed(x, "dial 3");
        Kit.illegal("more than the tape", () -> x.law(21));
        Kit.illegal("below 0", () -> x.law(-1));
        Kit.due("nothing changes", 20, () -> x.count(6));
        Kit.due("a law", 0, () -> x.law(6));
        Kit.due("the tape is empty", 0, () -> x.count(6));
        Kit.due("it stands", 690, () -> x.lawful(0, 0));
        Kit.due("a faulty law", 4, () -> Kit.law(x, "sun"));
        Kit.due("refused", 1, () -> x.count(7));
        Kit.due("the old one stands", 690, () -> x.lawful(0, 0));
        Kit.due("no text", 1, () -> x.law(0));
        Kit.due("at its end", 0, x::fault);
        Kit.due("another", 0, () -> Kit.law(x, "late 5 dial 3"));
        Kit.due("in its place", 695, () -> x.lawful(0, 0));
        Kit.due("a part of the tape", 0, () -> {
            Kit.feed(x, "dial 3;;;");
            return x.law(6);
        });
        Kit.port(x, SIX);
        Kit.illegal("none with each port", () -> x.lawful(0, 0));
    }

    private static void dueLaw(LyingDials x, String text, int day, int minute, int want) {
        Kit.due("law " + text, 0, () -> Kit.law(x, text));
        Kit.due(text + " on " + day + " at " + minute, want, () -> x.lawful(day, minute));
    }

    private static void lawful() {
        LyingDials x = Kit.of(SIX);
        Kit.illegal("no law", () -> x.lawful(0, 0));
        Kit.none("no day, no law", () -> x.lawful(365, 0));
        Kit.none("no minute, no law", () -> x.lawful(0, -1));
        dueLaw(x, "dial 0", 0, 700, 702);
        dueLaw(x, "dial 0", 0, 100, -1);
        dueLaw(x, "middle(0,1,3)", 0, 700, 700);
        dueLaw(x, "middle(1,3)", 0, 700, 700);
        dueLaw(x, "middle(3,1)", 0, 800, 690);
        dueLaw(x, "middle(1,5)", 0, 800, -1);
        dueLaw(x, "first(dial 1,dial 2,dial 3)", 0, 700, 700);
        dueLaw(x, "first(dial 1,dial 2,dial 3)", 0, 800, 800);
        dueLaw(x, "first(dial 1,dial 2,dial 3)", 0, 100, 690);
        dueLaw(x, "first(dial 1,dial 2)", 0, 100, -1);
        dueLaw(x, "mean(dial 0,dial 3)", 0, 701, 696);
        dueLaw(x, "mean(dial 1,dial 3)", 0, 721, -1);
        dueLaw(x, "mean(dial 3,dial 1)", 0, 721, -1);
        dueLaw(x, "late 720 dial 3", 0, 0, 1410);
        dueLaw(x, "late 60 late 720 dial 3", 0, 0, 30);
        dueLaw(x, "late -720 dial 3", 0, 0, 1410);
        dueLaw(x, "late -0 dial 3", 0, 0, 690);
        dueLaw(x, "late 1 dial 0", 0, 0, -1);
        dueLaw(x, "if dark dial 0 then dial 3 else dial 0 end", 0, 0, 690);
        dueLaw(x, "if dark dial 0 then dial 3 else dial 0 end", 0, 700, 702);
        dueLaw(x, "if not dark dial 0 then dial 3 else dial 0 end", 0, 0, -1);
        dueLaw(x, "if month 0 then dial 3 else dial 0 end", 30, 0, 690);
        dueLaw(x, "if month 0 then dial 3 else dial 0 end", 31, 0, -1);
        dueLaw(x, "if month 11 then dial 3 else dial 0 end", 364, 0, 690);
        dueLaw(x, "if month 11 then dial 3 else dial 0 end", 341, 0, 690);
        dueLaw(x, "if before(dial 3,dial 0) then dial 3 else dial 0 end", 0, 688, 690);
        dueLaw(x, "if before(dial 3,dial 0) then late 9 dial 3 else dial 3 end", 0, 688, 690);
        dueLaw(x, "if before(dial 3,dial 0) then late 9 dial 3 else dial 3 end", 0, 689, 699);
        dueLaw(x, "if before(dial 3,dial 0) then late 9 dial 3 else dial 3 end", 0, 0, 690);
        dueLaw(x, "if before(dial 0,dial 3) then late 9 dial 3 else dial 3 end", 0, 0, 690);
        x.mend(0, 0, 3);
        dueLaw(x, "dial 0", 0, 700, 700);
        Kit.none("no day", () -> x.lawful(-1, 0));
        Kit.none("no minute", () -> x.lawful(0, 1440));
    }

    private static void judged() {
        LyingDials x = Kit.of("limps 0 3 0 0 0 0 0 0 0 0 0 0;swing 0;dial bowl 0 0 0;dial painted 0 0 0;"
                + "dial east 0 0 0 grown 100;");
        Kit.illegal("no law", () -> x.judged(0, 0));
        Kit.none("no what, no law", () -> x.judged(0, 4));
        Kit.none("no minute, no law", () -> x.judged(1440, 0));
        Kit.law(x, "dial 0");
        Kit.due("always light", 365, () -> x.judged(700, 0));
        Kit.due("3 on each day of month 1", 93, () -> x.judged(700, 1));
        Kit.due("the first of month 1", 31, () -> x.judged(700, 2));
        Kit.due("no dial is better", 365, () -> x.judged(700, 3));
        Kit.due("right on all others", 31, () -> x.judged(719, 2));
        Kit.due("the painted one is better in month 1", 334, () -> x.judged(719, 3));
        Kit.due("night", 0, () -> x.judged(100, 0));
        Kit.due("night", 0, () -> x.judged(100, 1));
        Kit.due("always dark", -1, () -> x.judged(100, 2));
        Kit.due("but painted tells", 0, () -> x.judged(100, 3));
        Kit.law(x, "dial 1");
        Kit.due("midnight", 365 * 720, () -> x.judged(0, 1));
        Kit.due("all like", 0, () -> x.judged(0, 2));
        Kit.law(x, "dial 2");
        Kit.due("until grown over", 100, () -> x.judged(700, 0));
        Kit.due("unbeaten while it tells", 100, () -> x.judged(700, 3));
        Kit.port(x, "swing 0;dial bowl 0 0 0;");
        Kit.law(x, "dial 0");
        Kit.due("all dials are dark", 365, () -> x.judged(100, 3));
        Kit.none("what", () -> x.judged(0, -1));
        Kit.none("minute", () -> x.judged(-1, 0));
    }

    private static void fault() {
        LyingDials x = new LyingDials();
        Kit.port(x, "dial east 0 51 0;");
        Kit.due("its place", 12, x::fault);
        Kit.illegal("nothing changes", () -> x.port(1));
        Kit.due("its place", 12, x::fault);
        Kit.port(x, "dial painted 0 0 0;");
        Kit.due("without", -1, x::fault);
        Kit.law(x, "dial 1");
        Kit.due("of a law", 5, x::fault);
        Kit.law(x, "dial 0");
        Kit.due("without", -1, x::fault);
    }

    private static void count() {
        LyingDials x = Kit.of("cloud 1 2 3;dial bowl 0 0 0;swing 240;limps -30 1 2 3 4 5 6 7 8 9 10 30;dial east 0 0 0;"
                + "dial painted 0 0 0;cloud 1 2 3;");
        x.read(0, 0, 0, 0);
        x.see(0, 0);
        x.see(1, 0);
        x.see(1, 0);
        x.mend(0, 0, 0);
        x.mend(0, 0, 0);
        x.mend(0, 0, 0);
        x.mend(2, 0, 0);
        x.mend(0, 0, 121);
        x.feed(0, 0, 0, 0, 0);
        int[] want = {3, 240, 2, 1, 2, 3, 20, 0, 0, 1, 2};
        for (int what = 0; what < want.length; what++) {
            int w = what;
            Kit.due("count " + w, want[w], () -> x.count(w));
        }
        Kit.due("the first limp", -30, () -> x.count(20));
        Kit.due("the second limp", 1, () -> x.count(21));
        Kit.due("the last limp", 30, () -> x.count(31));
        for (int what : new int[] {-1, 11, 12, 19, 32, MIN, MAX}) {
            Kit.none("count " + what, () -> x.count(what));
        }
        Kit.law(x, "sun");
        Kit.port(x, "sun");
        Kit.due("refused texts", 2, () -> x.count(7));
    }

    private static void dial() {
        LyingDials x = Kit.of("dial east -120 50 120;dial west 1 2 3 grown 0;dial bowl 4 5 6 grown 364;"
                + "dial moon 0 0 0;dial cannon 0 0 0;dial painted 0 -50 0 grown 7;");
        int[][] want = {{0, -120, 50, 120, -1}, {1, 1, 2, 3, 0}, {2, 4, 5, 6, 364}, {3, 0, 0, 0, -1}, {4, 0, 0, 0, -1},
            {5, 0, -50, 0, 7}};
        for (int d = 0; d < want.length; d++) {
            for (int what = 0; what < 5; what++) {
                int a = d;
                int b = what;
                Kit.due("dial " + a + " " + b, want[a][b], () -> x.dial(a, b));
            }
        }
        x.mend(0, 0, 9);
        Kit.due("as the text told", -120, () -> x.dial(0, 1));
        Kit.none("no dial", () -> x.dial(6, 0));
        Kit.none("no dial", () -> x.dial(-1, 0));
        Kit.none("no dial", () -> x.dial(9, 0));
        Kit.none("no what", () -> x.dial(0, 5));
        Kit.none("no what", () -> x.dial(0, -1));
    }

    private static void day() {
        LyingDials x = Kit.of("limps 1 2 3 4 5 6 7 8 9 10 11 -12;");
        int[][] want = {{0, 721, 254}, {30, 721, 293}, {31, 722, 295}, {80, 723, 359}, {81, 723, 360}, {82, 723, 361},
            {172, 726, 480}, {171, 726, 478}, {354, 708, 240}, {355, 708, 240}, {353, 708, 242}, {364, 708, 252},
            {340, 731, 259}};
        for (int[] row : want) {
            Kit.due("noon of " + row[0], row[1], () -> x.day(row[0], 0));
            Kit.due("half of " + row[0], row[2], () -> x.day(row[0], 1));
        }
        Kit.none("no day", () -> x.day(-1, 0));
        Kit.none("no day", () -> x.day(365, 1));
        Kit.none("no what", () -> x.day(0, 2));
        Kit.none("no what", () -> x.day(0, -1));
        Kit.port(x, "swing 0;");
        Kit.due("without swing", 360, () -> x.day(0, 1));
        Kit.port(x, "swing 240;");
        Kit.due("the most swing", 120, () -> x.day(354, 1));
        Kit.due("the most swing", 600, () -> x.day(172, 1));
    }

    private static void tellsBySun() {
        LyingDials x = Kit.of("swing 0;dial east 7 50 0;dial west 0 -50 -8;dial bowl -120 50 -120;cloud 9 400 500;"
                + "cloud 9 500 500;cloud 9 1439 1439;limps 0 10 0 0 0 0 0 0 0 0 0 0;dial bowl 0 0 0 grown 20;");
        int[][] want = {{0, 0, 720, 727}, {0, 0, 721, -1}, {0, 0, 719, 726}, {0, 0, 717, 723}, {0, 0, 360, 187},
            {0, 0, 359, -1}, {1, 0, 720, 712}, {1, 0, 719, -1}, {1, 0, 721, 712}, {1, 0, 723, 713}, {1, 0, 1080, 892},
            {1, 0, 1081, -1}, {2, 0, 360, 120}, {2, 0, 720, 480}, {2, 0, 719, 479}, {2, 9, 399, 159}, {2, 9, 400, -1},
            {2, 9, 500, -1}, {2, 9, 501, 261}, {2, 8, 400, 160}, {2, 10, 400, 160}, {0, 31, 730, 727},
            {0, 31, 731, -1}, {1, 31, 730, 712}, {1, 31, 729, -1}, {2, 31, 369, -1}, {2, 31, 370, 120},
            {2, 31, 1090, 840}, {2, 31, 1091, -1}, {3, 19, 720, 720}, {3, 20, 720, -1}, {3, 364, 720, -1}};
        for (int[] row : want) {
            Kit.due("tells " + row[0] + " " + row[1] + " " + row[2], row[3], () -> x.tells(row[0], row[1], row[2]));
        }
        Kit.port(x, "swing 240;dial east -120 50 -120;dial west 120 50 120;");
        Kit.due("below midnight", 720 - 900 - 240 + 1440, () -> x.tells(0, 172, 120));
        Kit.due("past midnight", 720 + 900 + 240 - 1440, () -> x.tells(1, 172, 1320));
        Kit.none("no dial", () -> x.tells(2, 0, 0));
        Kit.none("no day", () -> x.tells(0, 365, 0));
        Kit.none("no day", () -> x.tells(0, -1, 0));
        Kit.none("no minute", () -> x.tells(0, 0, 1440));
        Kit.none("no minute", () -> x.tells(0, 0, -1));
    }

    private static void tellsByMoonAndOthers() {
        LyingDials x = Kit.of("swing 0;dial moon 3 50 4;dial cannon 10 50 0;dial painted -120 9 -120 grown 0;"
                + "dial moon 0 0 0 grown 15;cloud 15 0 1439;limps 0 0 0 0 0 0 0 0 0 0 0 30;");
        // On day 15 the moon's noon is at midnight, on day 8 at 1104, on day 22 at 336.
        int[][] want = {{0, 15, 0, 727}, {0, 15, 1, 728}, {0, 15, 1439, 726}, {0, 15, 359, 727 + 538},
            {0, 15, 360, -1}, {0, 15, 1081, 727 - 538}, {0, 15, 1080, -1}, {0, 14, 0, 727 + 72}, {0, 16, 0, 727 - 72},
            {0, 7, 1200, -1}, {0, 8, 1104, 727}, {0, 8, 1081, 727 - 34}, {0, 8, 24, 727 + 540}, {0, 8, 25, -1},
            {0, 22, 336, 727}, {0, 22, 1416, 727 - 540}, {0, 22, 1415, -1}, {0, 23, 300, -1}, {0, 37, 0, -1},
            {0, 38, 1104, 727}, {0, 352, 370, 727 + 51}, {0, 352, 389, 727 + 79}, {0, 352, 390, -1}, {3, 14, 0, 768},
            {3, 15, 0, -1}, {1, 0, 710, 720}, {1, 0, 709, -1}, {1, 0, 711, -1}, {1, 15, 710, -1}, {1, 364, 740, 720},
            {2, 0, 0, 480}, {2, 15, 700, 480}, {2, 364, 1439, 480}};
        for (int[] row : want) {
            Kit.due("tells " + row[0] + " " + row[1] + " " + row[2], row[3], () -> x.tells(row[0], row[1], row[2]));
        }
    }

    private static void tellsBehindManyClouds() {
        StringBuilder text = new StringBuilder("swing 0;dial bowl 0 0 0;");
        for (int i = 0; i < 20; i++) {
            text.append("cloud 50 ").append(600 + 2 * i).append(' ').append(600 + 2 * i).append(';');
        }
        LyingDials x = Kit.of(text.toString());
        for (int minute = 595; minute < 645; minute++) {
            int m = minute;
            boolean clouded = m >= 600 && m <= 638 && m % 2 == 0;
            Kit.due("clouds at " + m, clouded ? -1 : m, () -> x.tells(0, 50, m));
            Kit.due("no clouds at " + m, m, () -> x.tells(0, 51, m));
        }
        Kit.due("taken on that day", 721 - 20, () -> x.takes(0, 50) - x.takes(0, 51));
    }

    private static void turn() {
        LyingDials x = Kit.of(SIX);
        Kit.due("as told", 5, () -> x.turn(0, 364));
        x.mend(0, 100, 30);
        x.mend(1, 0, 99);
        x.mend(0, 50, -7);
        x.mend(0, 364, 8);
        int[][] want = {{0, 5}, {49, 5}, {50, -7}, {100, -7}, {363, -7}, {364, 8}};
        for (int[] row : want) {
            Kit.due("turn on " + row[0], row[1], () -> x.turn(0, row[0]));
        }
        Kit.due("of another", 99, () -> x.turn(1, 0));
        Kit.due("told by it", 695, () -> x.tells(0, 60, 705));
        Kit.none("no dial", () -> x.turn(6, 0));
        Kit.none("no day", () -> x.turn(0, 365));
        Kit.none("no day", () -> x.turn(0, -1));
    }

    private static void read() {
        LyingDials x = Kit.of(SIX);
        Kit.due("none to take back", -1, x::unread);
        for (int i = 1; i <= 12; i++) {
            int many = i;
            Kit.due("read", many, () -> x.read(many % 6, 364, 1439, 0));
        }
        Kit.due("there are 12", -1, () -> x.read(0, 0, 0, 0));
        Kit.due("refused", 1, () -> x.count(8));
        Kit.none("no dial", () -> x.read(6, 0, 0, 0));
        Kit.none("no day", () -> x.read(0, 365, 0, 0));
        Kit.none("no minute", () -> x.read(0, 0, 1440, 0));
        Kit.none("no minute told", () -> x.read(0, 0, 0, 1440));
        Kit.none("dark is no minute", () -> x.read(0, 0, 0, -1));
        Kit.due("those are not refused", 1, () -> x.count(8));
        Kit.due("taken back", 11, x::unread);
        Kit.due("again", 12, () -> x.read(0, 0, 0, 1439));
        for (int i = 11; i >= 0; i--) {
            int left = i;
            Kit.due("taken back", left, x::unread);
        }
        Kit.due("none to take back", -1, x::unread);
    }

    private static void dueFaults(LyingDials x, int dial, int... want) {
        for (int what = 0; what < want.length; what++) {
            int w = what;
            Kit.due("faults of " + dial + " " + w, want[w], () -> x.faults(dial, w));
        }
    }

    private static void faults() {
        LyingDials x = Kit.of("swing 0;dial east 100 50 10;dial bowl 0 0 0;dial cannon 0 0 10;dial painted 9 0 -20;"
                + "dial moon 0 0 0;dial bowl 0 0 0 grown 50;");
        dueFaults(x, 0, 4961, -60, 60, -20, 20);
        // East, 100 minutes ahead of noon: 730 - (100 + TILT) + TURN.
        x.read(0, 0, 620, 640);
        dueFaults(x, 0, 41, 10 - 20, 10 + 20, -20, 20);
        x.read(0, 0, 520, 550);
        dueFaults(x, 0, 1, 0, 0, -10, -10);
        x.mend(0, 0, 77);
        dueFaults(x, 0, 1, 0, 0, -10, -10);
        dueFaults(x, 1, 4961, -60, 60, -20, 20);
        x.read(1, 0, 700, 760);
        dueFaults(x, 1, 41, 60, 60, -20, 20);
        x.read(1, 0, 701, 760);
        dueFaults(x, 1, 0);
        Kit.illegal("none fits", () -> x.faults(1, 1));
        Kit.illegal("none fits", () -> x.faults(1, 4));
        Kit.none("no what, ahead", () -> x.faults(1, 5));
        x.unread();
        x.unread();
        x.read(1, 0, 700, 761);
        dueFaults(x, 1, 0);
        x.unread();
        x.read(1, 0, 100, 100);
        dueFaults(x, 1, 0);
        x.read(2, 0, 730, 740);
        dueFaults(x, 2, 0);
        x.unread();
        x.read(2, 0, 730, 720);
        dueFaults(x, 2, 41, -20, -20, -20, 20);
        x.read(2, 3, 730, 740);
        dueFaults(x, 2, 0);
        x.read(3, 0, 0, 700);
        dueFaults(x, 3, 41, 0, 0, -20, 20);
        x.read(4, 15, 100, 820);
        dueFaults(x, 4, 41, -20, 20, -20, 20);
        x.read(5, 49, 720, 720);
        dueFaults(x, 5, 41, 0, 0, -20, 20);
        x.read(5, 50, 720, 720);
        dueFaults(x, 5, 0);
        Kit.none("no dial", () -> x.faults(6, 0));
        Kit.none("no what", () -> x.faults(0, -1));
        faultsAtTheirEnds();
    }

    private static void faultsAtTheirEnds() {
        LyingDials x = Kit.of("swing 0;dial east 0 0 0;dial west 0 0 0;");
        // East, 200 and 300 minutes ahead of noon: by TURN -60 and TILT -20.
        x.read(0, 0, 520, 500);
        x.read(0, 0, 420, 420);
        dueFaults(x, 0, 1, -60, -60, -20, -20);
        // West: by TURN 60 and TILT 20.
        x.read(1, 0, 920, 1020);
        x.read(1, 0, 1020, 1140);
        dueFaults(x, 1, 1, 60, 60, 20, 20);
        Kit.port(x, "swing 0;dial cannon 0 0 0;");
        x.read(0, 0, 730, 740);
        dueFaults(x, 0, 0);
    }

    private static void next() {
        LyingDials x = Kit.of("swing 0;dial bowl 0 0 0;dial east 0 0 0;dial cannon 0 0 0;dial painted 0 0 0;"
                + "cloud 7 360 400;");
        // A bowl in the light has 121 groups of 41, by night it is dark by all couples.
        Kit.due("bowl", 360, () -> x.next(0, 0, 0));
        Kit.due("bowl", 41, () -> x.next(0, 0, 1));
        Kit.due("behind a cloud", 405, () -> x.next(0, 7, 0));
        Kit.due("painted", 0, () -> x.next(3, 0, 0));
        Kit.due("painted", 41, () -> x.next(3, 0, 1));
        // A cannon fires by one turn in the light: 41 couples, of which 60 minutes off noon are the farthest.
        Kit.due("cannon", 660, () -> x.next(2, 0, 0));
        Kit.due("cannon", 4920, () -> x.next(2, 0, 1));
        Kit.port(x, "swing 0;dial bowl 0 0 0;dial east 0 0 0;dial cannon 0 0 0;dial painted 0 0 0;cloud 0 600 779;");
        Kit.due("cannon, by -60", 780, () -> x.next(2, 0, 0));
        x.read(1, 0, 620, 620);
        Kit.due("none fits behind a cloud", -1, () -> x.next(1, 0, 1));
        x.unread();
        x.read(1, 1, 620, 620);
        // 41 couples, TILT and TURN alike: farthest from that minute they are most apart.
        Kit.due("each by itself", 1, () -> x.next(1, 0, 1));
        Kit.due("as early as may be", 360, () -> x.next(1, 0, 0));
        x.read(1, 1, 520, 520);
        Kit.due("one couple", 1, () -> x.next(1, 0, 1));
        Kit.due("one couple", 0, () -> x.next(1, 0, 0));
        x.read(1, 1, 421, 520);
        Kit.due("none fits", -1, () -> x.next(1, 0, 0));
        Kit.due("none fits", -1, () -> x.next(1, 0, 1));
        Kit.none("no what, though none fits", () -> x.next(1, 0, 2));
        Kit.none("no what", () -> x.next(0, 0, -1));
        Kit.none("no dial", () -> x.next(4, 0, 0));
        Kit.none("no day", () -> x.next(0, 365, 0));
    }

    private static void see() {
        LyingDials x = Kit.of(SIX);
        Kit.due("nothing to forget", 0, x::forget);
        Kit.due("seen", 1, () -> x.see(5, 0));
        Kit.due("seen", 2, () -> x.see(0, 1439));
        Kit.due("already", -1, () -> x.see(5, 7));
        Kit.due("refused", 1, () -> x.count(9));
        Kit.none("no dial", () -> x.see(6, 0));
        Kit.none("no minute", () -> x.see(1, 1440));
        Kit.none("dark is no minute", () -> x.see(1, -1));
        Kit.none("no minute, though already", () -> x.see(5, -1));
        Kit.due("those are not refused", 1, () -> x.count(9));
        Kit.due("seen", 2, () -> x.count(4));
        Kit.due("forgotten", 2, x::forget);
        Kit.due("seen", 0, () -> x.count(4));
        Kit.due("seen anew", 1, () -> x.see(5, 7));
    }

    private static void dueMinutes(LyingDials x, int day, int many, int least, int greatest) {
        Kit.due("minutes that fit", many, () -> x.minutes(day, 0));
        Kit.due("the least", least, () -> x.minutes(day, 1));
        Kit.due("the greatest", greatest, () -> x.minutes(day, 2));
    }

    private static void minutes() {
        LyingDials x = Kit.of("swing 0;dial west 0 -50 0;dial bowl 0 0 0;dial painted 0 0 0;dial moon 0 0 0;"
                + "dial moon 0 -50 0;cloud 9 800 800;");
        dueMinutes(x, 0, 1440, 0, 1439);
        x.see(2, 720);
        dueMinutes(x, 364, 1440, 0, 1439);
        x.forget();
        x.see(2, 721);
        dueMinutes(x, 0, 0, -1, -1);
        x.forget();
        x.see(0, 760);
        dueMinutes(x, 0, 2, 800, 801);
        dueMinutes(x, 9, 1, 801, 801);
        x.see(1, 801);
        dueMinutes(x, 0, 1, 801, 801);
        x.see(2, 720);
        dueMinutes(x, 0, 1, 801, 801);
        x.mend(1, 5, 1);
        dueMinutes(x, 4, 1, 801, 801);
        dueMinutes(x, 5, 1, 800, 800);
        dueMinutes(x, 9, 0, -1, -1);
        x.forget();
        x.see(4, 720);
        dueMinutes(x, 15, 3, 0, 1439);
        x.forget();
        x.see(3, 719);
        dueMinutes(x, 15, 1, 1439, 1439);
        Kit.none("no day", () -> x.minutes(365, 0));
        Kit.none("no what", () -> x.minutes(0, 3));
        Kit.none("no what", () -> x.minutes(0, -1));
        farMinutes(x);
    }

    private static void farMinutes(LyingDials x) {
        int[][] want = {{1, 360, 0, 360}, {1, 1080, 0, 1080}, {0, 900, 0, 1080}, {3, 720 + 360, 8, 24},
            {3, 720 - 360, 22, 1416}};
        for (int[] r : want) {
            x.forget();
            x.see(r[0], r[1]);
            dueMinutes(x, r[2], 1, r[3], r[3]);
        }
        Kit.port(x, "swing 240;dial bowl 0 0 0;");
        for (int minute : new int[] {120, 121, 1319, 1320}) {
            x.forget();
            x.see(0, minute);
            dueMinutes(x, 172, 1, minute, minute);
        }
    }

    private static void dueDays(LyingDials x, int many, int day, int minute) {
        Kit.due("days that fit", many, () -> x.days(0));
        Kit.due("the first's day", day, () -> x.days(1));
        Kit.due("its minute", minute, () -> x.days(2));
    }

    private static void days() {
        LyingDials x = Kit.of("swing 0;dial west 0 -50 0;dial bowl 0 0 0 grown 40;dial painted 0 0 0;dial moon 0 0 0;"
                + "cloud 0 0 1439;limps 0 0 0 0 0 0 0 0 0 0 0 6;");
        dueDays(x, 365 * 1440, 0, 0);
        x.see(0, 760);
        // Two minutes on each day but the clouded one.
        dueDays(x, 728, 1, 800);
        x.see(1, 801);
        dueDays(x, 39, 1, 801);
        x.forget();
        x.see(2, 721);
        dueDays(x, 0, -1, -1);
        x.forget();
        x.see(0, 720);
        dueDays(x, 728, 1, 720);
        x.forget();
        x.see(3, 720);
        // The moon's noon is by night from AGE 8 on (at 1104) to AGE 22 (at 336): on 15 of each 30 days.
        dueDays(x, 180, 8, 1104);
        Kit.none("no what", () -> x.days(3));
        Kit.none("no what", () -> x.days(-1));
    }

    private static void late() {
        LyingDials x = Kit.of("swing 0;dial west 0 -50 0;dial bowl 10 0 0;dial painted 0 0 0;dial moon 0 0 0;"
                + "dial cannon 5 0 0;cloud 9 730 740;");
        int[][] want = {{0, 1, 760, 0, 50}, {1, 0, 760, 0, 50}, {0, 0, 760, 0, 0}, {2, 1, 720, 0, 710},
            {2, 4, 720, 0, 715}, {2, 1, 721, 0, -1}, {4, 1, 721, 0, -1}, {0, 1, 719, 0, -1}, {3, 2, 720, 0, -1},
            {3, 2, 720, 15, 0}, {3, 2, 720, 14, 1392}, {0, 1, 725, 9, -1}, {0, 1, 730, 9, 21},
            {0, 1, 730, 8, 20}};
        for (int[] r : want) {
            Kit.due("late " + java.util.Arrays.toString(r), r[4], () -> x.late(r[0], r[1], r[2], r[3]));
        }
        x.mend(1, 0, 0);
        Kit.due("mended", 40, () -> x.late(0, 1, 760, 0));
        Kit.none("no dial", () -> x.late(5, 0, 0, 0));
        Kit.none("no dial", () -> x.late(0, -1, 0, 0));
        Kit.none("no minute", () -> x.late(0, 0, 1440, 0));
        Kit.none("no minute", () -> x.late(0, 0, -1, 0));
        Kit.none("no day", () -> x.late(0, 0, 0, 365));
    }

    private static void meet() {
        LyingDials x = Kit.of("swing 0;limps 0 5 0 9 0 0 0 0 0 0 0 0;dial bowl 0 0 0;dial bowl 3 0 0 grown 200;"
                + "dial painted 0 0 0;cloud 10 0 1439;dial moon 0 0 0;");
        Kit.due("at once", 0, () -> x.meet(0, 1, 700, 0, 0));
        Kit.due("behind the cloud", 11, () -> x.meet(0, 1, 700, 10, 0));
        Kit.due("all like", 0, () -> x.meet(0, 1, 700, 0, 1));
        Kit.due("grown over", -1, () -> x.meet(0, 1, 700, 200, 0));
        Kit.due("grown over", -1, () -> x.meet(0, 1, 700, 200, 1));
        Kit.due("on the last day of it", 199, () -> x.meet(0, 1, 700, 199, 1));
        // By the painted one at 0, by the bowl at its noon: 720, 725 or 729.
        Kit.due("least", 0, () -> x.meet(2, 0, 720, 0, 1));
        Kit.due("first", 40, () -> x.meet(2, 0, 720, 40, 0));
        Kit.due("least from then on", 62, () -> x.meet(2, 0, 720, 40, 1));
        Kit.due("the moon is at noon", 8, () -> x.meet(2, 3, 720, 0, 0));
        Kit.due("at midnight", 15, () -> x.meet(2, 3, 720, 0, 1));
        Kit.due("at midnight again", 45, () -> x.meet(2, 3, 720, 16, 1));
        Kit.due("never", -1, () -> x.meet(2, 0, 721, 0, 1));
        x.mend(0, 100, 9);
        x.mend(1, 100, 9);
        Kit.due("mended alike", 100, () -> x.meet(0, 1, 700, 0, 1));
        Kit.none("no dial", () -> x.meet(4, 0, 0, 0, 0));
        Kit.none("no dial", () -> x.meet(0, 4, 0, 0, 0));
        Kit.none("no minute", () -> x.meet(0, 0, 1440, 0, 0));
        Kit.none("no day", () -> x.meet(0, 0, 0, 365, 0));
        Kit.none("no what", () -> x.meet(0, 0, 0, 0, 2));
        Kit.none("no what", () -> x.meet(0, 0, 0, 0, -1));
    }

    private static void mend() {
        LyingDials x = Kit.of(SIX);
        Kit.due("none to undo", -1, x::undo);
        Kit.due("painted", -1, () -> x.mend(3, 0, 0));
        Kit.due("turn", -1, () -> x.mend(0, 0, 121));
        Kit.due("turn", -1, () -> x.mend(0, 0, -121));
        Kit.due("refused", 3, () -> x.count(10));
        for (int i = 1; i <= 40; i++) {
            int many = i;
            Kit.due("mend", many, () -> x.mend(many % 3, 364, many % 2 == 0 ? 120 : -120));
        }
        Kit.due("there are 40", -1, () -> x.mend(0, 0, 0));
        Kit.due("refused once each", 4, () -> x.count(10));
        Kit.due("one call, one refusal", -1, () -> x.mend(3, 0, 500));
        Kit.due("refused once each", 5, () -> x.count(10));
        Kit.none("no dial", () -> x.mend(6, 0, 0));
        Kit.none("no day", () -> x.mend(0, 365, 0));
        Kit.none("no day, ahead", () -> x.mend(3, -1, 500));
        Kit.due("those are not refused", 5, () -> x.count(10));
        for (int i = 39; i >= 0; i--) {
            int left = i;
            Kit.due("undo", left, x::undo);
        }
        Kit.due("none to undo", -1, x::undo);
        Kit.due("as told again", 5, () -> x.turn(0, 364));
    }

    private static void best() {
        LyingDials x = Kit.of("swing 0;limps 0 0 0 0 0 0 10 10 10 10 10 10;dial bowl 4 0 0;dial east 50 50 120;"
                + "dial cannon 0 0 0;dial painted 0 0 0;dial bowl 0 0 0 grown 0;dial west 119 0 0;");
        // Noon is 720 on 186 days, then 730 on 179.
        int[][] want = {{0, 800, 0, 0, 186}, {0, 800, 4, 4, 186}, {0, 800, 5, 5, 365}, {0, 800, 6, 4, 365},
            {1, 700, 0, -110, 186}, {1, 720, 0, -120, 186}, {1, 725, 0, 725 - 833, 179}, {2, 715, 5, 5, 186},
            {2, 715, 4, 0, 0}, {2, 725, 5, -5, 186}, {4, 720, 120, 0, 0}, {5, 100, 0, 119, 0}, {5, 1000, 120, 119, 365},
            {5, 1000, 0, 0, 186}};
        for (int[] r : want) {
            Kit.due("best of " + r[0] + " at " + r[1] + " within " + r[2], r[3], () -> x.best(r[0], r[1], r[2], 0));
            Kit.due("days of " + r[0] + " at " + r[1] + " within " + r[2], r[4], () -> x.best(r[0], r[1], r[2], 1));
        }
        x.mend(0, 0, 77);
        Kit.due("mends are left out", 4, () -> x.best(0, 800, 4, 0));
        Kit.none("no dial", () -> x.best(6, 0, 0, 0));
        Kit.none("no minute", () -> x.best(0, 1440, 0, 0));
        Kit.none("no what, ahead of painted", () -> x.best(3, 0, 0, 2));
        Kit.none("no what, ahead of within", () -> x.best(0, 0, 121, -1));
        Kit.illegal("painted", () -> x.best(3, 0, 0, 0));
        Kit.illegal("within", () -> x.best(0, 0, 121, 0));
        Kit.illegal("within", () -> x.best(0, 0, -1, 0));
        Kit.port(x, "swing 0;dial bowl 2 0 0;limps 0 4 0 0 0 0 0 0 0 0 0 -24;cloud 0 0 1439;");
        // Right by 0 on most days; 31 by 4, 24 by -24, and one is dark.
        Kit.due("most days", 0, () -> x.best(0, 720, 0, 0));
        Kit.due("most days", 309, () -> x.best(0, 720, 0, 1));
        Kit.port(x, "swing 0;dial bowl 5 0 0;limps 0 10 0 0 0 0 0 0 0 0 0 0;"
                + "cloud 0 0 1439;cloud 1 0 1439;");
        Kit.due("all of both, next to 5", 5, () -> x.best(0, 720, 5, 0));
        Kit.due("all of both", 363, () -> x.best(0, 720, 5, 1));
        tiesOfBest();
    }

    private static void tiesOfBest() {
        LyingDials x = Kit.of("swing 0;dial cannon 5 0 0;limps 0 10 0 10 0 10 0 10 0 10 0 10;cloud 0 700 740;"
                + "cloud 1 700 740;cloud 2 700 740;cloud 4 700 740;cloud 5 700 740;cloud 6 700 740;cloud 7 700 740;");
        // 186 days by 0, less seven under clouds: 179, as many as by 10.
        Kit.due("of like ones as near, the least", 0, () -> x.best(0, 720, 0, 0));
        Kit.due("days", 179, () -> x.best(0, 720, 0, 1));
        Kit.port(x, "swing 0;dial cannon 6 0 0;limps 0 10 0 10 0 10 0 10 0 10 0 10;cloud 0 700 740;"
                + "cloud 1 700 740;cloud 2 700 740;cloud 4 700 740;cloud 5 700 740;cloud 6 700 740;cloud 7 700 740;");
        Kit.due("of like ones the nearer", 10, () -> x.best(0, 720, 0, 0));
    }

    private static void year() {
        LyingDials x = Kit.of("swing 0;dial bowl 4 0 0 grown 300;dial painted 0 0 0;cloud 7 100 900;");
        Kit.due("light", 299, () -> x.year(0, 800, 0));
        Kit.due("wrong", 299 * 4, () -> x.year(0, 800, 1));
        Kit.due("night", 0, () -> x.year(0, 0, 0));
        Kit.due("night", 0, () -> x.year(0, 0, 1));
        Kit.due("painted", 365, () -> x.year(1, 0, 0));
        Kit.due("at most 720", 365 * 720, () -> x.year(1, 0, 1));
        Kit.due("the shorter way", 365 * 719, () -> x.year(1, 1439, 1));
        Kit.due("the shorter way", 365 * 719, () -> x.year(1, 1, 1));
        x.mend(0, 200, -1);
        Kit.due("mended", 199 * 4 + 100, () -> x.year(0, 800, 1));
        Kit.none("no dial", () -> x.year(2, 0, 0));
        Kit.none("no minute", () -> x.year(0, -1, 0));
        Kit.none("no what", () -> x.year(0, 0, 2));
        Kit.none("no what", () -> x.year(0, 0, -1));
    }

    private static void live() {
        LyingDials x = Kit.of("swing 0;dial bowl 9 0 0;dial west 3 0 0;dial east 3 0 0;dial bowl 3 0 0;"
                + "dial bowl 0 0 0 grown 364;");
        Kit.due("least wrong of the brightest", 1, () -> x.live(800));
        Kit.due("east ahead of noon", 2, () -> x.live(700));
        Kit.due("all dark", 0, () -> x.live(0));
        x.mend(0, 0, 1);
        Kit.due("mended", 0, () -> x.live(800));
        Kit.none("no minute", () -> x.live(1440));
        Kit.none("no minute", () -> x.live(-1));
        Kit.port(x, "");
        Kit.due("no dials", -1, () -> x.live(0));
        Kit.none("no minute, no dials", () -> x.live(1440));
    }

    private static void middle() {
        LyingDials x = Kit.of("swing 0;dial painted 9 0 0;dial painted 5 0 0;dial painted 7 0 0;dial painted 1 0 0;"
                + "dial bowl 0 0 0;");
        int[][] want = {{1, 729}, {3, 729}, {7, 727}, {15, 727}, {31, 725}, {16, 720}, {24, 721}, {0, -1}};
        for (int[] r : want) {
            Kit.due("middle of " + r[0], r[1], () -> x.middle(r[0], 0, 720));
        }
        Kit.due("the dark ones left out", 727, () -> x.middle(31, 0, 0));
        Kit.due("all dark", -1, () -> x.middle(16, 0, 0));
        x.mend(4, 0, 6);
        Kit.due("mended", 726, () -> x.middle(31, 0, 720));
        Kit.illegal("bits", () -> x.middle(32, 0, 0));
        Kit.illegal("bits", () -> x.middle(63, 0, 0));
        Kit.illegal("bits", () -> x.middle(-1, 0, 0));
        Kit.illegal("bits", () -> x.middle(MIN, 0, 0));
        Kit.none("no day, ahead", () -> x.middle(32, 365, 0));
        Kit.none("no minute, ahead", () -> x.middle(32, 0, 1440));
    }

    private static void together() {
        LyingDials x = Kit.of("swing 0;dial east 0 0 0;dial west 0 0 0;dial bowl 0 0 0;dial bowl 9 0 0 grown 9;"
                + "cloud 5 700 1439;dial cannon 0 0 0;");
        Kit.due("both bowls", 23, () -> x.together(0, 0));
        Kit.due("both bowls", 721, () -> x.together(0, 1));
        Kit.due("half a day, of like ones the least", 2, () -> x.together(9, 0));
        Kit.due("half a day", 361, () -> x.together(9, 1));
        Kit.due("a cloudy day", 2, () -> x.together(5, 0));
        Kit.due("a cloudy day", 340, () -> x.together(5, 1));
        Kit.none("no day", () -> x.together(365, 0));
        Kit.none("no what", () -> x.together(0, 2));
        Kit.none("no what", () -> x.together(0, -1));
        Kit.port(x, "dial bowl 0 0 0;");
        Kit.due("one alone", -1, () -> x.together(0, 0));
        Kit.due("one alone", 0, () -> x.together(0, 1));
        Kit.port(x, "swing 0;dial cannon 0 0 0;dial cannon 1 0 0;dial cannon 0 0 0;");
        Kit.due("cannons", 2, () -> x.together(0, 0));
        Kit.due("cannons", 1, () -> x.together(0, 1));
        x.mend(2, 0, 1);
        Kit.due("mended", 12, () -> x.together(0, 0));
        x.mend(2, 0, 2);
        Kit.due("never both", 1, () -> x.together(0, 0));
        Kit.due("never both", 0, () -> x.together(0, 1));
    }

    private static void takes() {
        LyingDials x = Kit.of("swing 0;dial east 0 0 0;dial west 0 0 0;dial bowl 0 0 0 grown 100;dial painted 0 0 0;"
                + "dial cannon 0 0 0;dial moon 0 0 0;cloud 9 700 719;cloud 9 710 729;");
        int[][] want = {{0, 364, 361}, {0, 0, 365 * 361 - 21}, {1, 0, 365 * 361 - 10}, {1, 10, 355 * 361},
            {2, 0, 100 * 721 - 30}, {2, 99, 721}, {2, 100, 0}, {3, 0, 0}, {4, 0, 364}, {4, 9, 355}, {4, 364, 1},
            {5, 364, 0}};
        for (int[] r : want) {
            Kit.due("takes of " + r[0] + " from " + r[1], r[2], () -> x.takes(r[0], r[1]));
        }
        // The moon goes from 1080 to 360 by way of midnight on day 345 (AGE 15), and the light from 360 to 1080.
        Kit.due("moon, AGE 15 less AGE 16", 719, () -> x.takes(5, 345) - x.takes(5, 346));
        // On day 352 (AGE 22) from 1416 to 696: by night from 1416 to 359.
        Kit.due("moon, AGE 22", 24 + 360, () -> x.takes(5, 352));
        // On day 338 (AGE 8) from 744 to 24: by night from 1081 to 24.
        Kit.due("moon, AGE 8", 359 + 25, () -> x.takes(5, 338) - x.takes(5, 339));
        x.mend(4, 300, 1);
        Kit.due("a mended cannon still fires", 364, () -> x.takes(4, 0));
        Kit.none("no dial", () -> x.takes(6, 0));
        Kit.none("no day", () -> x.takes(0, 365));
        Kit.none("no day", () -> x.takes(0, -1));
    }

    private static void image() {
        LyingDials x = Kit.of(SIX);
        Kit.same("no image", false, x.restore());
        x.read(0, 0, 700, 702);
        x.see(0, 702);
        x.mend(0, 0, 1);
        x.mend(1, 0, 2);
        x.image();
        x.unread();
        x.read(0, 0, 700, 11);
        x.read(0, 0, 701, 11);
        x.forget();
        x.see(1, 700);
        x.see(3, 690);
        x.undo();
        x.mend(0, 0, 33);
        x.mend(3, 0, 33);
        Kit.same("as the image again", true, x.restore());
        Kit.due("readings", 1, () -> x.count(3));
        Kit.due("readings", 41, () -> x.faults(0, 0));
        Kit.due("seen", 1, () -> x.count(4));
        Kit.due("seen", 704, () -> x.minutes(0, 1));
        Kit.due("mends", 2, () -> x.count(5));
        Kit.due("mends", 1, () -> x.turn(0, 0));
        Kit.due("mends", 2, () -> x.turn(1, 0));
        Kit.due("STATUS stays", 1, () -> x.count(10));
        Kit.due("not seen any more", 2, () -> x.see(1, 700));
        x.undo();
        x.image();
        x.undo();
        Kit.same("the image stays one", true, x.restore());
        Kit.due("in place of another", 1, () -> x.count(5));
        Kit.due("in place of another", 2, () -> x.count(4));
        x.forget();
        Kit.same("and again", true, x.restore());
        Kit.due("and again", 2, () -> x.count(4));
        Kit.port(x, "");
        Kit.same("gone with a port", false, x.restore());
        Kit.port(x, "swing 0;dial bowl 0 0 0;dial bowl 0 0 0;limps 0 7 0 0 0 0 0 0 0 0 0 0;");
        x.read(0, 3, 700, 705);
        x.image();
        x.unread();
        x.read(1, 40, 600, 200);
        Kit.same("a reading", true, x.restore());
        Kit.due("of its dial", 5, () -> x.faults(0, 1));
        Kit.due("of no other", 4961, () -> x.faults(1, 0));
        LyingDials y = new LyingDials();
        y.image();
        Kit.same("an empty image", true, y.restore());
    }
}
