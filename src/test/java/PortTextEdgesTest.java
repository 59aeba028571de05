/** The terms of a PORT's text: each sentence that names an edge, at the edge and one past it. */
public final class PortTextEdgesTest {
    private static final String DIAL = "dial bowl 0 0 0;";
    private static final String LIMPS = "limps 0 0 0 0 0 0 0 0 0 0 0 0;";
    private static final String CLOUD = "cloud 1 2 3;";

    private PortTextEdgesTest() {
    }

    public static void main(String[] args) {
        dials();
        kinds();
        turnTiltTown();
        grown();
        limps();
        swing();
        clouds();
        cloudMinutes();
        textOf700Bytes();
        words();
        numbers();
        eachByteAlone();
        eachByteBetweenTokens();
        eachByteBehindANumber();
        noLines();
        signed();
        lineEnds();
        orders();
        firstAlongTheText();
        leastOfOneToken();
        endsTooSoon();
        fiveDigits();
        minusAhead();
        secondMinuteBelow();
        tenthDialTwentyFirstCloud();
        secondLimpsSecondSwing();
        Kit.end();
    }

    private static LyingDials stands(String text) {
        LyingDials x = new LyingDials();
        Kit.due("port '" + text + "'", 0, () -> Kit.port(x, text));
        Kit.due("fault() of '" + text + "'", -1, x::fault);
        Kit.due("STATUS 0 of '" + text + "'", 0, () -> x.count(7));
        return x;
    }

    private static void falls(String text, int fault, int place) {
        LyingDials x = new LyingDials();
        Kit.due("port '" + text + "'", fault, () -> Kit.port(x, text));
        Kit.due("fault() of '" + text + "'", place, x::fault);
        Kit.due("STATUS 0 of '" + text + "'", 1, () -> x.count(7));
        Kit.due("DIALS of '" + text + "'", 0, () -> x.count(0));
        Kit.due("SWING of '" + text + "'", 120, () -> x.count(1));
        Kit.due("CLOUDS of '" + text + "'", 0, () -> x.count(2));
    }

    private static void dials() {
        Kit.says("A PORT has DIALS 0, 1 .. (at most 9)");
        LyingDials none = stands("");
        Kit.due("no DIALS", 0, () -> none.count(0));
        Kit.none("DIAL 0 of none", () -> none.dial(0, 0));
        LyingDials nine = stands(DIAL.repeat(8) + "dial west 7 0 0;");
        Kit.due("nine DIALS", 9, () -> nine.count(0));
        Kit.due("the first", 2, () -> nine.dial(0, 0));
        Kit.due("the ninth's KIND", 1, () -> nine.dial(8, 0));
        Kit.due("the ninth's TURN", 7, () -> nine.dial(8, 1));
        Kit.none("a tenth", () -> nine.dial(9, 0));
        falls(DIAL.repeat(10), 2, 9 * DIAL.length());
    }

    private static void kinds() {
        Kit.says("each of a KIND: 0 east, 1 west, 2 bowl, 3 moon, 4 cannon, 5 painted");
        String[] kinds = {"east", "west", "bowl", "moon", "cannon", "painted"};
        for (int kind = 0; kind < kinds.length; kind++) {
            int k = kind;
            LyingDials x = stands("dial " + kinds[k] + " 0 0 0;");
            Kit.due(kinds[k], k, () -> x.dial(0, 0));
            falls("dial " + kinds[k] + "s 0 0 0;", 1, 5);
            falls("dial " + kinds[k].substring(1) + " 0 0 0;", 1, 5);
            falls("dial " + kinds[k] + " " + kinds[k] + " 0 0 0;", 1, 6 + kinds[k].length());
        }
    }

    private static void turnTiltTown() {
        Kit.says("a TURN (-120 to 120), a TILT (-50 to 50), a TOWN (-120 to 120)");
        int[] most = {120, 50, 120};
        String[] ahead = {"dial moon ", "dial moon 0 ", "dial moon 0 0 "};
        String[] behind = {" 0 0;", " 0;", ";"};
        for (int i = 0; i < 3; i++) {
            int what = i + 1;
            for (int value : new int[] {-most[i], -most[i] + 1, -1, 0, 1, most[i] - 1, most[i]}) {
                LyingDials x = stands(ahead[i] + value + behind[i]);
                Kit.due("dial(0, " + what + ")", value, () -> x.dial(0, what));
            }
            falls(ahead[i] + (most[i] + 1) + behind[i], 2, ahead[i].length());
            falls(ahead[i] + "-" + (most[i] + 1) + behind[i], 2, ahead[i].length() + 1);
            falls(ahead[i] + "9999" + behind[i], 2, ahead[i].length());
            falls(ahead[i] + "-9999" + behind[i], 2, ahead[i].length() + 1);
        }
    }

    private static void grown() {
        Kit.says("perhaps GROWN over from a DAY on (0 to 364)");
        LyingDials not = stands("dial east 0 0 0;");
        Kit.due("not GROWN", -1, () -> not.dial(0, 4));
        for (int day : new int[] {0, 1, 363, 364}) {
            LyingDials x = stands("dial east 0 0 0 grown " + day + ";");
            Kit.due("GROWN from " + day, day, () -> x.dial(0, 4));
        }
        falls("dial east 0 0 0 grown 365;", 2, 22);
        falls("dial east 0 0 0 grown 9999;", 2, 22);
        falls("dial east 0 0 0 grown -1;", 1, 22);
        falls("dial east 0 0 0 grown -0;", 1, 22);
        falls("dial east 0 0 0 grown;", 1, 21);
        falls("dial east 0 0 0 grown 1 grown 1;", 1, 24);
        falls("dial east 0 0 grown 1;", 1, 14);
    }

    private static String limpsWith(int month, String value) {
        StringBuilder text = new StringBuilder("limps");
        for (int i = 0; i < 12; i++) {
            text.append(' ').append(i == month ? value : "0");
        }
        return text.append(';').toString();
    }

    private static void limps() {
        Kit.says("LIMPS, one of each of 12 MONTHS (-30 to 30; 0 without)");
        Kit.says("'limps' SIGNED and eleven more");
        LyingDials without = stands("swing 1;");
        for (int month = 0; month < 12; month++) {
            int what = 20 + month;
            int place = 6 + 2 * month;
            Kit.due("without, count " + what, 0, () -> without.count(what));
            for (int limp : new int[] {-30, -29, 29, 30}) {
                LyingDials x = stands(limpsWith(month, Integer.toString(limp)));
                for (int other = 20; other < 32; other++) {
                    int o = other;
                    Kit.due("count " + o, o == what ? limp : 0, () -> x.count(o));
                }
            }
            falls(limpsWith(month, "31"), 2, place);
            falls(limpsWith(month, "-31"), 2, place + 1);
        }
        falls("limps;", 1, 5);
        falls("limps 0 0 0 0 0 0 0 0 0 0 0;", 1, 27);
        falls("limps 0 0 0 0 0 0 0 0 0 0 0 0 0;", 1, 30);
    }

    private static void swing() {
        Kit.says("SWING (0 to 240; 120 without)");
        LyingDials without = stands("");
        Kit.due("without", 120, () -> without.count(1));
        for (int swing : new int[] {0, 1, 239, 240}) {
            LyingDials x = stands("swing " + swing + ";");
            Kit.due("SWING", swing, () -> x.count(1));
        }
        falls("swing 241;", 2, 6);
        falls("swing 9999;", 2, 6);
        falls("swing -1;", 1, 6);
        falls("swing -0;", 1, 6);
        falls("swing;", 1, 5);
    }

    private static void clouds() {
        Kit.says("CLOUDS (at most 20)");
        LyingDials none = stands(DIAL);
        Kit.due("no CLOUDS", 0, () -> none.count(2));
        for (int many : new int[] {1, 19, 20}) {
            LyingDials x = stands(CLOUD.repeat(many));
            Kit.due("CLOUDS", many, () -> x.count(2));
        }
        falls(CLOUD.repeat(21), 2, 20 * CLOUD.length());
    }

    private static void cloudMinutes() {
        Kit.says("on a DAY from a MINUTE to another one (no less)");
        String[] good = {"cloud 0 0 0;", "cloud 364 0 1439;", "cloud 364 1439 1439;", "cloud 5 1438 1439;"};
        for (String text : good) {
            LyingDials x = stands(text);
            Kit.due("CLOUDS", 1, () -> x.count(2));
        }
        falls("cloud 365 0 0;", 2, 6);
        falls("cloud -1 0 0;", 1, 6);
        falls("cloud 0 1440 1440;", 2, 8);
        falls("cloud 0 -1 0;", 1, 8);
        falls("cloud 0 0 1440;", 2, 10);
        falls("cloud 0 0 -1;", 1, 10);
        falls("cloud 0 0;", 1, 9);
        falls("cloud 0 0 0 0;", 1, 12);
    }

    private static void textOf700Bytes() {
        Kit.says("A TEXT of at most 700 bytes tells it.");
        LyingDials x = stands("swing 7;" + " ".repeat(676) + DIAL);
        Kit.due("its first line", 7, () -> x.count(1));
        Kit.due("its last line", 1, () -> x.count(0));
        falls("swing 7;" + " ".repeat(677) + DIAL.substring(1), 1, 685);
        falls(" ".repeat(695) + "swing", 1, 700);
    }

    private static void words() {
        Kit.says("words (a .. z, the longest row)");
        falls("dialbowl 0 0 0;", 1, 0);
        falls("dial bowlgrown 0 0 0;", 1, 5);
        falls("dia l bowl 0 0 0;", 1, 0);
        falls("zdial bowl 0 0 0;", 1, 0);
        falls("adial bowl 0 0 0;", 1, 0);
        falls("diala bowl 0 0 0;", 1, 0);
        falls("dialz bowl 0 0 0;", 1, 0);
        falls("dial`bowl 0 0 0;", 1, 4);
        falls("dial{bowl 0 0 0;", 1, 4);
        falls("DIAL BOWL 0 0 0;", 1, 0);
        LyingDials x = stands("dial bowl0 0 0grown0;");
        Kit.due("a word ends at a digit", 0, () -> x.dial(0, 4));
        eachLetter("dial bowl 0 0 0;", 0, 4);
        eachLetter("dial bowl 0 0 0;", 5, 9);
        eachLetter("dial bowl 0 0 0 grown 1;", 16, 21);
        eachLetter(LIMPS, 0, 5);
        eachLetter("swing 1;", 0, 5);
        eachLetter(CLOUD, 0, 5);
    }

    /** A word with any letter of it changed is another word. */
    private static void eachLetter(String text, int from, int to) {
        for (int at = from; at < to; at++) {
            for (char letter : new char[] {'a', 'z'}) {
                if (text.charAt(at) != letter) {
                    falls(text.substring(0, at) + letter + text.substring(at + 1), 1, from);
                }
            }
            falls(text.substring(0, at) + text.substring(at + 1), 1, from);
        }
    }

    private static void numbers() {
        Kit.says("NUMBERS (1 to 4 digits)");
        for (String number : new String[] {"5", "05", "005", "0005"}) {
            LyingDials x = stands("swing " + number + ";");
            Kit.due("SWING", 5, () -> x.count(1));
        }
        falls("swing 00005;", 2, 6);
        falls("swing 0/5;", 1, 7);
        falls("swing 0:5;", 1, 7);
        falls("swing /;", 1, 6);
        falls("swing :;", 1, 6);
        LyingDials x = stands("limps 0000-30-0030 30 0 0 0 0 0 0 0 0;");
        Kit.due("a NUMBER ends at a sign", -30, () -> x.count(21));
        Kit.due("a NUMBER ends at a sign", -30, () -> x.count(22));
    }

    private static void eachByteAlone() {
        Kit.says("signs ; - and blanks (32, 10) between them, which count for nothing");
        for (int sign = 0; sign < 256; sign++) {
            String text = "" + (char) sign;
            if (sign == 32 || sign == 10) {
                stands(text);
            } else {
                falls(text, 1, 0);
            }
        }
    }

    private static void eachByteBetweenTokens() {
        Kit.says("blanks (32, 10) between them");
        for (int sign = 0; sign < 256; sign++) {
            String text = "swing" + (char) sign + "5;";
            if (sign == 32 || sign == 10) {
                stands(text);
            } else if (sign >= 'a' && sign <= 'z') {
                falls(text, 1, 0);
            } else if (sign >= '0' && sign <= '9') {
                LyingDials x = stands(text);
                Kit.due(text, 10 * (sign - '0') + 5, () -> x.count(1));
            } else {
                falls(text, 1, 5);
            }
        }
    }

    private static void eachByteBehindANumber() {
        Kit.says("1 a TOKEN that can't stand there, or is none");
        for (int sign = 0; sign < 256; sign++) {
            String text = "swing 5" + (char) sign;
            if (sign == ';') {
                stands(text);
            } else if (sign == 32 || sign == 10 || sign >= '0' && sign <= '9') {
                falls(text, 1, 8);
            } else {
                falls(text, 1, 7);
            }
        }
    }

    private static void noLines() {
        Kit.says("PORT: LINE*.");
        stands("");
        stands(" ");
        stands("\n\n ");
        falls(";", 1, 0);
        falls(DIAL + ";", 1, DIAL.length());
        falls("; " + DIAL, 1, 0);
    }

    private static void signed() {
        Kit.says("SIGNED: ['-'] NUMBER.");
        String[] good = {"-0", "- 0", "-\n0", "-0000", "0"};
        for (String zero : good) {
            LyingDials x = stands("dial east " + zero + " 0 0;");
            Kit.due("TURN " + zero, 0, () -> x.dial(0, 1));
        }
        LyingDials x = stands("dial east-120-50-120;");
        Kit.due("without blanks", -50, () -> x.dial(0, 2));
        falls("dial east --1 0 0;", 1, 11);
        falls("dial east - - 1 0 0;", 1, 12);
        stands("dial east 1- 0 0;");
        falls("dial east -;", 1, 11);
        falls("dial east +1 0 0;", 1, 10);
    }

    private static void lineEnds() {
        Kit.says("'cloud' NUMBER NUMBER NUMBER) ';'.");
        for (String line : new String[] {DIAL, LIMPS, "swing 5;", CLOUD, "dial bowl 0 0 0 grown 5;"}) {
            String open = line.substring(0, line.length() - 1);
            stands(line);
            stands(open + " \n ;");
            falls(open, 1, open.length());
            falls(open + "  ", 1, open.length() + 2);
            falls(open + " swing 1;", 1, open.length() + 1);
            falls(open + ":", 1, open.length());
        }
    }

    private static void orders() {
        Kit.says("A DIAL has TURN, TILT, TOWN in this order, a CLOUD its DAY and both MINUTES.");
        LyingDials x = stands("dial bowl 120 50 -120;cloud 364 700 701;");
        Kit.due("TURN", 120, () -> x.dial(0, 1));
        Kit.due("TILT", 50, () -> x.dial(0, 2));
        Kit.due("TOWN", -120, () -> x.dial(0, 3));
        Kit.due("the CLOUD's DAY", -1, () -> x.tells(0, 364, 700));
        Kit.due("behind the CLOUD", 702, () -> x.tells(0, 364, 702));
        falls("dial bowl 50 120 0;", 2, 13);
        falls("cloud 700 364 701;", 2, 6);
    }

    private static void firstAlongTheText() {
        Kit.says("FAULTS, the first along the text, at a TOKEN's first byte");
        falls("  dial bowl 121 51 121;sun", 2, 12);
        falls("dial bowl 0 51 121;", 2, 12);
        falls("swing 241;swing 1;", 2, 6);
        falls("swing 1;swing 241;", 3, 8);
        falls("dial sun 121 0 0;", 1, 5);
        falls("\n\n sunset;swing 241;", 1, 3);
        falls("dial bowl 0 0 0 sunset 1;", 1, 16);
    }

    private static void leastOfOneToken() {
        Kit.says("of one TOKEN the least");
        falls("dial 12345", 1, 5);
        falls("swing 5 12345;", 1, 8);
        falls("12345", 1, 0);
        falls("swing 5;swing 5 12345;", 3, 8);
        falls(LIMPS + "swing limps", 1, 36);
        falls("cloud 0 1439 12345;", 2, 13);
    }

    private static void endsTooSoon() {
        Kit.says("(the text's length where it ends too soon)");
        String[] rows = {"dial bowl - 1 - 2 - 3 grown 4 ;", "limps 0 - 0 0 0 0 0 0 0 0 0 0 0 ;", "swing 7 ;",
            "cloud 1 2 3 ;"};
        for (String row : rows) {
            for (int end = row.indexOf(' '); end >= 0; end = row.indexOf(' ', end + 1)) {
                falls(row.substring(0, end), 1, end);
                falls(row.substring(0, end + 1), 1, end + 1);
                falls(DIAL + row.substring(0, end), 1, DIAL.length() + end);
            }
            stands(row);
        }
        LyingDials x = new LyingDials();
        Kit.feed(x, "swing 77;");
        Kit.due("the tape has more", 1, () -> x.port(7));
        Kit.due("but the text's length counts", 7, x::fault);
    }

    private static void fiveDigits() {
        Kit.says("2 one that can, but is too much: a NUMBER of 5 digits or more");
        for (String number : new String[] {"00000", "00001", "99999", "000000000000000000001", "4294967296"}) {
            falls("swing " + number + ";", 2, 6);
            falls("dial bowl " + number + " 0 0;", 2, 10);
            falls("dial bowl -" + number + " 0 0;", 2, 11);
            falls("dial bowl 0 0 0 grown " + number + ";", 2, 22);
            falls("limps " + number, 2, 6);
            falls("cloud " + number + " 0 0;", 2, 6);
            falls("cloud 0 " + number + " 0;", 2, 8);
            falls("cloud 0 0 " + number + ";", 2, 10);
        }
    }

    private static void minusAhead() {
        Kit.says("(with - ahead of it, if there is one; at the NUMBER) not as told");
        falls("dial bowl -121 0 0;", 2, 11);
        falls("dial bowl -   121 0 0;", 2, 14);
        falls("dial bowl 0 -\n51 0;", 2, 14);
        falls("limps 0 - 31", 2, 10);
    }

    private static void secondMinuteBelow() {
        Kit.says("a CLOUD's second MINUTE below its first one");
        falls("cloud 0 1 0;", 2, 10);
        falls("cloud 0 700 699;", 2, 12);
        falls("cloud 0 1439 1438;", 2, 13);
        stands("cloud 0 700 700;");
        stands("cloud 0 700 701;");
    }

    private static void tenthDialTwentyFirstCloud() {
        Kit.says("the first TOKEN of the 10th DIAL, the 21st CLOUD");
        falls(DIAL.repeat(9) + " dial", 2, 145);
        falls(DIAL.repeat(9) + "dial sun 12345", 2, 144);
        falls(DIAL.repeat(9) + "swing 241;dial", 2, 150);
        stands(DIAL.repeat(9) + CLOUD.repeat(20));
        falls(CLOUD.repeat(20) + " cloud", 2, 241);
        falls(CLOUD.repeat(20) + "cloud sun", 2, 240);
        falls(CLOUD.repeat(20) + DIAL + "cloud", 2, 240 + DIAL.length());
    }

    private static void secondLimpsSecondSwing() {
        Kit.says("3 a second 'limps', 'swing'.");
        falls(LIMPS + " limps", 3, LIMPS.length() + 1);
        falls(LIMPS + "limps 31", 3, LIMPS.length());
        falls("swing 0;swing 0;", 3, 8);
        falls("swing 0;" + DIAL + "swing", 3, 8 + DIAL.length());
        stands(LIMPS + "swing 0;");
        stands("swing 0;" + LIMPS);
        LyingDials x = stands("swing 1;" + LIMPS);
        Kit.due("another text may tell them again", 0, () -> Kit.port(x, LIMPS + "swing 2;"));
        Kit.due("all anew", 2, () -> x.count(1));
    }
}
