/** Laws (promises 4 to 6, terms under 6): each sentence that names an edge, at the edge and one past it. */
public final class LawEdgesTest {
    /** DIALS: 0 painted at 720, 1 bowl, 2 painted at 960, 3 painted at 480, 4 is always DARK. */
    private static final String FIVE = "swing 0;dial painted 0 0 0;dial bowl 0 0 0;dial painted 120 0 120;"
            + "dial painted -120 0 -120;dial bowl 0 0 0 grown 0;";
    private static final String LATE = "late 0 ";

    private LawEdgesTest() {
    }

    public static void main(String[] args) {
        eachByteAlone();
        eachByteBehindALaw();
        oneTimeAlone();
        ifThenElse();
        dialNumbers();
        dialsOfAMiddle();
        firstThatIsNotDark();
        meanFromNoughtOn();
        laterRoundTheDay();
        lateNumbers();
        months();
        monthNumbers();
        before();
        notAndDark();
        endsTooSoon();
        fiveDigits();
        withinTwelveOthers();
        withinTwelveOthersOfEachSort();
        deepestWordsAndOthers();
        dialTwice();
        otherWords();
        textOf700Bytes();
        lawInPlaceOfAnother();
        noLaw();
        lawOfTheTape();
        judgedAlwaysDark();
        judgedMostWrong();
        judgedNoDialLessWrong();
        Kit.end();
    }

    private static LyingDials stands(String text) {
        LyingDials x = Kit.of(FIVE);
        Kit.due("law '" + text + "'", 0, () -> Kit.law(x, text));
        Kit.due("fault() of '" + text + "'", -1, x::fault);
        Kit.due("STATUS 0 of '" + text + "'", 0, () -> x.count(7));
        return x;
    }

    private static void falls(String text, int fault, int place) {
        LyingDials x = Kit.of(FIVE);
        Kit.due("law '" + text + "'", fault, () -> Kit.law(x, text));
        Kit.due("fault() of '" + text + "'", place, x::fault);
        Kit.due("STATUS 0 of '" + text + "'", 1, () -> x.count(7));
        Kit.illegal("no LAW by '" + text + "'", () -> x.lawful(0, 0));
    }

    private static void tells(String text, int day, int minute, int want) {
        LyingDials x = stands(text);
        Kit.due(text + " on " + day + " at " + minute, want, () -> x.lawful(day, minute));
    }

    private static void eachByteAlone() {
        Kit.says("TOKENS as above, signs ( ) , too, without the sign ;");
        for (int sign = 0; sign < 256; sign++) {
            String text = "" + (char) sign;
            if (sign == 32 || sign == 10) {
                falls(text, 1, 1);
            } else if (sign >= 'a' && sign <= 'z') {
                falls(text, 4, 0);
            } else {
                falls(text, 1, 0);
            }
        }
    }

    private static void eachByteBehindALaw() {
        Kit.says("TOKENS as above, signs ( ) , too, without the sign ;");
        for (int sign = 0; sign < 256; sign++) {
            String text = "dial 0" + (char) sign;
            if (sign == 32 || sign == 10 || sign >= '0' && sign <= '4') {
                stands(text);
            } else if (sign >= '5' && sign <= '9') {
                falls(text, 2, 5);
            } else {
                falls(text, 1, 6);
            }
        }
        stands("mean ( dial 0 , dial\n0 )");
        stands("mean(dial0,dial0)");
        falls("mean(dial 0;dial 0)", 1, 11);
    }

    private static void oneTimeAlone() {
        Kit.says("LAW: TIME.");
        falls("", 1, 0);
        falls("   ", 1, 3);
        falls("dial 0 dial 0", 1, 7);
        falls("dial 0,dial 0", 1, 6);
        falls("month 0", 4, 0);
        falls("(dial 0)", 1, 0);
    }

    private static void ifThenElse() {
        Kit.says("'if' TEST 'then' TIME 'else' TIME 'end'");
        tells("if month 0 then dial 3 else dial 2 end", 30, 0, 480);
        tells("if month 0 then dial 3 else dial 2 end", 31, 0, 960);
        tells("if month 0 then if month 1 then dial 2 else dial 3 end else dial 0 end", 0, 0, 480);
        tells("if month 0 then dial 0 else if month 1 then dial 2 else dial 3 end end", 364, 0, 480);
        falls("if then dial 3 else dial 2 end", 4, 3);
        falls("if month 0 dial 3 else dial 2 end", 1, 11);
        falls("if month 0 then else dial 2 end", 4, 16);
        falls("if month 0 then dial 3 dial 2 end", 1, 23);
        falls("if month 0 then dial 3 end", 1, 23);
        falls("if month 0 then dial 3 else end", 4, 28);
        falls("if month 0 then dial 3 else dial 2", 1, 34);
        falls("if month 0 then dial 3 else dial 2 end end", 1, 39);
    }

    private static void dialNumbers() {
        Kit.says("DIAL: a NUMBER.");
        Kit.says("not as told (a DIAL that there isn't)");
        tells("dial 0", 0, 0, 720);
        tells("dial 4", 0, 720, -1);
        tells("dial 0003", 0, 0, 480);
        falls("dial 5", 2, 5);
        falls("dial 9999", 2, 5);
        falls("dial -1", 1, 5);
        falls("dial -0", 1, 5);
        falls("middle(5)", 2, 7);
        falls("middle(0,5)", 2, 9);
        LyingDials nine = Kit.of("dial painted 1 0 0;".repeat(8) + "dial painted 5 0 0;");
        Kit.due("the ninth DIAL", 0, () -> Kit.law(nine, "dial 8"));
        Kit.due("the ninth DIAL", 725, () -> nine.lawful(0, 0));
        Kit.due("a tenth", 2, () -> Kit.law(nine, "dial 9"));
        Kit.due("a tenth", 2, () -> Kit.law(nine, "middle(0,9)"));
        LyingDials none = new LyingDials();
        Kit.due("of none", 2, () -> Kit.law(none, "dial 0"));
        Kit.due("at the NUMBER", 5, none::fault);
        Kit.due("of none", 2, () -> Kit.law(none, "middle(0)"));
        Kit.due("at the NUMBER", 7, none::fault);
    }

    private static void dialsOfAMiddle() {
        Kit.says("'middle' '(' DIAL (',' DIAL)* ')' (THE MIDDLE of these, each once)");
        tells("middle(3)", 0, 0, 480);
        tells("middle(3,0)", 0, 0, 720);
        tells("middle(0,3)", 0, 0, 720);
        tells("middle(2,3,0)", 0, 0, 720);
        tells("middle(1)", 0, 359, -1);
        tells("middle(1)", 0, 360, 360);
        tells("middle(1,4)", 0, 359, -1);
        tells("middle(4,3,2,1,0)", 0, 359, 720);
        tells("middle(4,3,2,1,0)", 0, 1080, 960);
        falls("middle()", 1, 7);
        falls("middle(0,)", 1, 9);
        falls("middle(,0)", 1, 7);
        falls("middle(0", 1, 8);
        falls("middle 0)", 1, 7);
        LyingDials nine = Kit.of("dial painted 1 0 0;".repeat(8) + "dial painted 5 0 0;");
        Kit.due("all nine", 0, () -> Kit.law(nine, "middle(8,7,6,5,4,3,2,1,0)"));
        Kit.due("all nine", 721, () -> nine.lawful(0, 0));
        Kit.due("one of them again", 3, () -> Kit.law(nine, "middle(8,7,6,5,4,3,2,1,0,8)"));
        Kit.due("at the NUMBER", 25, nine::fault);
        Kit.due("one that there isn't", 2, () -> Kit.law(nine, "middle(8,7,6,5,4,3,2,1,0,9)"));
        Kit.due("at the NUMBER", 25, nine::fault);
    }

    private static void firstThatIsNotDark() {
        Kit.says("'first' '(' TIME (',' TIME)* ')' (the first of these that isn't DARK)");
        tells("first(dial 0)", 0, 0, 720);
        tells("first(dial 4)", 0, 0, -1);
        tells("first(dial 4,dial 1)", 0, 359, -1);
        tells("first(dial 4,dial 1)", 0, 360, 360);
        tells("first(dial 1,dial 3,dial 2)", 0, 359, 480);
        tells("first(dial 4,dial 4,dial 4,dial 2)", 0, 0, 960);
        falls("first()", 1, 6);
        falls("first(dial 0,)", 1, 13);
        falls("first(,dial 0)", 1, 6);
        falls("first(dial 0", 1, 12);
        falls("first dial 0", 1, 6);
    }

    private static void meanFromNoughtOn() {
        Kit.says("'mean' '(' TIME ',' TIME ')' (both together by 2, cut down, as minutes from 0 on; DARK, if one is)");
        tells("mean(late 719 dial 0,late 720 dial 0)", 0, 0, 719);
        tells("mean(late 719 dial 0,late 719 dial 0)", 0, 0, 1439);
        tells("mean(late 720 dial 0,late 720 dial 0)", 0, 0, 0);
        tells("mean(late 720 dial 0,late -719 dial 0)", 0, 0, 0);
        tells("mean(late -719 dial 0,late -718 dial 0)", 0, 0, 1);
        tells("mean(dial 0,late 1 dial 0)", 0, 0, 720);
        tells("mean(dial 0,late 2 dial 0)", 0, 0, 721);
        tells("mean(dial 4,dial 0)", 0, 0, -1);
        tells("mean(dial 0,dial 4)", 0, 0, -1);
        tells("mean(dial 4,dial 4)", 0, 0, -1);
        falls("mean(dial 0)", 1, 11);
        falls("mean(dial 0,dial 0,dial 0)", 1, 18);
        falls("mean()", 1, 5);
    }

    private static void laterRoundTheDay() {
        Kit.says("(that by so many MINUTES, -720 to 720, later, MOD 1440; DARK, if it is)");
        tells("late 719 dial 0", 0, 0, 1439);
        tells("late 720 dial 0", 0, 0, 0);
        tells("late -720 dial 0", 0, 0, 0);
        tells("late -1 late -720 dial 0", 0, 0, 1439);
        tells("late 720 dial 2", 0, 0, 240);
        tells("late -720 dial 3", 0, 0, 1200);
        tells("late 0 dial 0", 0, 0, 720);
        tells("late -0 dial 0", 0, 0, 720);
        tells("late 1 dial 4", 0, 0, -1);
        tells("late 720 dial 1", 0, 359, -1);
    }

    private static void lateNumbers() {
        Kit.says("'late' SIGNED TIME");
        stands("late 720 dial 0");
        stands("late -720 dial 0");
        stands("late - 720 dial 0");
        falls("late 721 dial 0", 2, 5);
        falls("late -721 dial 0", 2, 6);
        falls("late - 721 dial 0", 2, 7);
        falls("late 9999 dial 0", 2, 5);
        falls("late --1 dial 0", 1, 6);
        falls("late dial 0", 1, 5);
        falls("late 1", 1, 6);
    }

    private static void months() {
        Kit.says("'month' NUMBER (0 to 11: it is that MONTH)");
        for (int month = 0; month < 12; month++) {
            LyingDials x = stands("if month " + month + " then dial 0 else dial 2 end");
            int first = 31 * month;
            int last = Math.min(364, first + 30);
            Kit.due("its first DAY", 720, () -> x.lawful(first, 0));
            Kit.due("its last DAY", 720, () -> x.lawful(last, 0));
            if (month > 0) {
                Kit.due("the DAY ahead", 960, () -> x.lawful(first - 1, 0));
            }
            if (month < 11) {
                Kit.due("the DAY behind", 960, () -> x.lawful(last + 1, 0));
            }
        }
    }

    private static void monthNumbers() {
        Kit.says("'month' NUMBER (0 to 11");
        stands("if month 0 then dial 0 else dial 0 end");
        stands("if month 0011 then dial 0 else dial 0 end");
        falls("if month 12 then dial 0 else dial 0 end", 2, 9);
        falls("if month 9999 then dial 0 else dial 0 end", 2, 9);
        falls("if month -1 then dial 0 else dial 0 end", 1, 9);
        falls("if month -0 then dial 0 else dial 0 end", 1, 9);
        falls("if month then dial 0 else dial 0 end", 1, 9);
    }

    private static void before() {
        Kit.says("'before' '(' TIME ',' TIME ')' (none is DARK, the first is less)");
        String end = " then dial 0 else dial 2 end";
        tells("if before(dial 0,late 1 dial 0)" + end, 0, 0, 720);
        tells("if before(dial 0,dial 0)" + end, 0, 0, 960);
        tells("if before(late 1 dial 0,dial 0)" + end, 0, 0, 960);
        tells("if before(late 720 dial 0,late 719 dial 0)" + end, 0, 0, 720);
        tells("if before(dial 4,dial 0)" + end, 0, 0, 960);
        tells("if before(dial 0,dial 4)" + end, 0, 0, 960);
        tells("if before(dial 4,dial 4)" + end, 0, 0, 960);
        tells("if not before(dial 4,dial 0)" + end, 0, 0, 720);
        falls("if before(dial 0)" + end, 1, 16);
        falls("if before(dial 0,dial 0,dial 0)" + end, 1, 23);
        falls("if before()" + end, 1, 10);
    }

    private static void notAndDark() {
        Kit.says("TEST: 'not' TEST | 'dark' TIME");
        String end = " then dial 0 else dial 2 end";
        tells("if dark dial 1" + end, 0, 359, 720);
        tells("if dark dial 1" + end, 0, 360, 960);
        tells("if dark dial 1" + end, 0, 1080, 960);
        tells("if dark dial 1" + end, 0, 1081, 720);
        tells("if not dark dial 1" + end, 0, 359, 960);
        tells("if not not dark dial 1" + end, 0, 359, 720);
        tells("if dark dial 4 then dial 4 else dial 0 end", 0, 0, -1);
        tells("if dark dial 0 then dial 0 else dial 4 end", 0, 0, -1);
        falls("if not" + end, 4, 7);
        falls("if not dial 0" + end, 4, 7);
        falls("if dark" + end, 4, 8);
        falls("if dark dark dial 0" + end, 4, 8);
    }

    private static void endsTooSoon() {
        Kit.says("FAULTS of it: 1 as above");
        String[] rows = {"dial 0", "middle ( 0 , 1 )", "first ( dial 0 , dial 1 )", "mean ( dial 0 , dial 1 )",
            "late - 5 dial 0", "if not month 0 then dial 0 else dial 1 end",
            "if before ( dial 0 , dial 1 ) then dial 0 else dial 1 end", "if dark dial 0 then dial 0 else dial 1 end"};
        for (String row : rows) {
            for (int end = row.indexOf(' '); end >= 0; end = row.indexOf(' ', end + 1)) {
                falls(row.substring(0, end), 1, end);
                falls(row.substring(0, end + 1), 1, end + 1);
            }
            stands(row);
            stands(" " + row + "\n");
            falls(row + " 0", 1, row.length() + 1);
            falls(row + " end", 1, row.length() + 1);
        }
    }

    private static void fiveDigits() {
        Kit.says("2 a NUMBER of 5 digits or more, or not as told");
        for (String number : new String[] {"00000", "00001", "99999", "4294967296"}) {
            falls("dial " + number, 2, 5);
            falls("middle(" + number + ")", 2, 7);
            falls("middle(0," + number + ")", 2, 9);
            falls("late " + number + " dial 0", 2, 5);
            falls("late -" + number + " dial 0", 2, 6);
            falls("if month " + number + " then dial 0 else dial 0 end", 2, 9);
            falls("dial 0 " + number, 1, 7);
            falls(number, 1, 0);
        }
        stands("dial 0000");
    }

    private static void withinTwelveOthers() {
        Kit.says("a TIME or a TEST within 12 others (at its first TOKEN, if that is a word)");
        tells(LATE.repeat(10) + "late 5 dial 0", 0, 0, 725);
        stands(LATE.repeat(11) + "middle(0,1)");
        falls(LATE.repeat(12) + "dial 0", 2, 84);
        falls(LATE.repeat(12) + "middle(0,1)", 2, 84);
        falls(LATE.repeat(13) + "dial 0", 2, 84);
        String end = " then dial 0 else dial 2 end";
        tells("if " + "not ".repeat(10) + "month 0" + end, 0, 0, 720);
        falls("if " + "not ".repeat(11) + "month 0" + end, 2, 47);
        tells("if " + "not ".repeat(9) + "dark dial 4" + end, 0, 0, 960);
        falls("if " + "not ".repeat(10) + "dark dial 4" + end, 2, 48);
    }

    private static void withinTwelveOthersOfEachSort() {
        Kit.says("a TIME or a TEST within 12 others");
        String[][] sorts = {{"first(", ")"}, {"first(dial 4,", ")"}, {"mean(", ",dial 0)"}, {"mean(dial 0,", ")"},
            {"if month 0 then ", " else dial 4 end"}, {"if month 1 then dial 4 else ", " end"}};
        for (String[] sort : sorts) {
            tells(sort[0] + LATE.repeat(10) + "dial 0" + sort[1], 0, 0, 720);
            falls(sort[0] + LATE.repeat(11) + "dial 0" + sort[1], 2, sort[0].length() + 77);
            tells(LATE.repeat(10) + sort[0] + "dial 0" + sort[1], 0, 0, 720);
            falls(LATE.repeat(11) + sort[0] + "dial 0" + sort[1], 2, 77 + depthPlace(sort[0]));
        }
        String[][] tests = {{"if dark ", " then dial 4 else dial 0 end"},
            {"if before(", ",dial 2) then dial 0 else dial 4 end"},
            {"if before(dial 3,", ") then dial 0 else dial 4 end"}};
        for (String[] test : tests) {
            tells(test[0] + LATE.repeat(9) + "dial 0" + test[1], 0, 0, 720);
            falls(test[0] + LATE.repeat(10) + "dial 0" + test[1], 2, test[0].length() + 70);
        }
    }

    /** Where the first TIME or TEST within it begins. */
    private static int depthPlace(String open) {
        return open.startsWith("if ") ? 3 : open.indexOf('(') + 1;
    }

    private static void deepestWordsAndOthers() {
        Kit.says("(at its first TOKEN, if that is a word)");
        falls(LATE.repeat(12) + "sun", 2, 84);
        falls(LATE.repeat(12) + "then", 2, 84);
        falls(LATE.repeat(12) + "0", 1, 84);
        falls(LATE.repeat(12) + "12345", 1, 84);
        falls(LATE.repeat(12) + "(", 1, 84);
        falls(LATE.repeat(12), 1, 84);
        falls(LATE.repeat(11) + "sun", 4, 77);
        falls(LATE.repeat(11) + "0", 1, 77);
    }

    private static void dialTwice() {
        Kit.says("3 a DIAL of one 'middle' twice");
        falls("middle(0,0)", 3, 9);
        falls("middle(0,1,2,3,4,0)", 3, 17);
        falls("middle(0,0000)", 3, 9);
        falls("middle(4, 4)", 3, 10);
        falls("middle(0,00000)", 2, 9);
        falls("middle(5,5)", 2, 7);
        stands("mean(middle(0),middle(0))");
        stands("first(dial 0,dial 0)");
    }

    private static void otherWords() {
        Kit.says("4 any other word where a TIME or a TEST must stand.");
        for (String word : new String[] {"sun", "then", "else", "end", "not", "dark", "month", "before", "grown", "a",
            "z", "dials", "dia"}) {
            falls(word, 4, 0);
            falls("first(dial 0," + word + ")", 4, 13);
            falls("mean(" + word + ",dial 0)", 4, 5);
            falls("mean(dial 0," + word + ")", 4, 12);
            falls("late 5 " + word, 4, 7);
            falls("if dark " + word, 4, 8);
            falls("if month 0 then " + word, 4, 16);
            falls("if month 0 then dial 0 else " + word, 4, 28);
        }
        for (String word : new String[] {"sun", "then", "dial", "middle", "first", "mean", "late", "if", "a", "z"}) {
            falls("if " + word, 4, 3);
            falls("if not " + word, 4, 7);
        }
        eachLetter("dial 0", 0, 4, 4);
        eachLetter("middle(0)", 0, 6, 4);
        eachLetter("first(dial 0)", 0, 5, 4);
        eachLetter("mean(dial 0,dial 0)", 0, 4, 4);
        eachLetter("late 0 dial 0", 0, 4, 4);
        eachLetter("if not month 0 then dial 0 else dial 0 end", 0, 2, 4);
        eachLetter("if not month 0 then dial 0 else dial 0 end", 3, 6, 4);
        eachLetter("if not month 0 then dial 0 else dial 0 end", 7, 12, 4);
        eachLetter("if dark dial 0 then dial 0 else dial 0 end", 3, 7, 4);
        eachLetter("if before(dial 0,dial 0) then dial 0 else dial 0 end", 3, 9, 4);
        eachLetter("if month 0 then dial 0 else dial 0 end", 11, 15, 1);
        eachLetter("if month 0 then dial 0 else dial 0 end", 23, 27, 1);
        eachLetter("if month 0 then dial 0 else dial 0 end", 35, 38, 1);
        falls("if month 0 sun", 1, 11);
        falls("if month 0 then dial 0 sun", 1, 23);
        falls("if month 0 then dial 0 else dial 0 sun", 1, 35);
        falls("dial sun", 1, 5);
        falls("middle(sun)", 1, 7);
        falls("late sun", 1, 5);
    }

    /** A word with any letter of it changed is another word. */
    private static void eachLetter(String text, int from, int to, int fault) {
        for (int at = from; at < to; at++) {
            for (char letter : new char[] {'a', 'z'}) {
                if (text.charAt(at) != letter) {
                    falls(text.substring(0, at) + letter + text.substring(at + 1), fault, from);
                }
            }
            falls(text.substring(0, at) + text.substring(at + 1), fault, from);
        }
    }

    private static void textOf700Bytes() {
        Kit.says("It is told by a TEXT of its own");
        Kit.says("A TEXT of at most 700 bytes tells it.");
        String many = "first(" + "dial4,".repeat(114) + "dial 2)";
        tells(many + " ".repeat(700 - many.length()), 0, 0, 960);
        tells(" ".repeat(694) + "dial 3", 0, 0, 480);
        falls(" ".repeat(696) + "dial", 1, 700);
    }

    private static void lawInPlaceOfAnother() {
        Kit.says("are the LAW, in place of another one: 0, or the FAULT (the LAW stays as it was).");
        LyingDials x = stands("dial 3");
        String[] bad = {"", "dial 5", "middle(0,0)", "sun", "first(dial 0,dial 1", "late 0 ".repeat(12) + "dial 0"};
        int[] faults = {1, 2, 3, 4, 1, 2};
        for (int i = 0; i < bad.length; i++) {
            int n = i;
            Kit.due("law '" + bad[n] + "'", faults[n], () -> Kit.law(x, bad[n]));
            Kit.due("the tape is empty", 0, () -> x.count(6));
            Kit.due("STATUS 0", n + 1, () -> x.count(7));
            Kit.due("the LAW stays", 480, () -> x.lawful(0, 0));
        }
        Kit.due("another", 0, () -> Kit.law(x, "dial 2"));
        Kit.due("in its place", 960, () -> x.lawful(0, 0));
        Kit.due("fault() is NONE", -1, x::fault);
    }

    private static void noLaw() {
        Kit.says("At first, and with each PORT, there is none.");
        Kit.says("IllegalArgumentException (behind NoSuchElementException): there is no LAW (as everywhere).");
        LyingDials x = new LyingDials();
        noLawIn(x);
        Kit.port(x, FIVE);
        noLawIn(x);
        Kit.law(x, "dial 0");
        Kit.due("now", 720, () -> x.lawful(0, 0));
        Kit.due("a PORT with a FAULT", 1, () -> Kit.port(x, "sun"));
        Kit.due("leaves it", 720, () -> x.lawful(0, 0));
        Kit.due("an empty PORT", 0, () -> x.port(0));
        noLawIn(x);
        Kit.port(x, FIVE);
        Kit.due("a LAW with a FAULT", 4, () -> Kit.law(x, "sun"));
        noLawIn(x);
    }

    private static void noLawIn(LyingDials x) {
        Kit.illegal("lawful", () -> x.lawful(0, 0));
        Kit.illegal("lawful", () -> x.lawful(364, 1439));
        Kit.none("no such DAY is ahead", () -> x.lawful(365, 0));
        Kit.none("no such DAY is ahead", () -> x.lawful(-1, 0));
        Kit.none("no such MINUTE is ahead", () -> x.lawful(0, 1440));
        Kit.none("no such MINUTE is ahead", () -> x.lawful(0, -1));
        for (int what = 0; what <= 3; what++) {
            int w = what;
            Kit.illegal("judged", () -> x.judged(0, w));
        }
        Kit.none("another what is ahead", () -> x.judged(0, 4));
        Kit.none("another what is ahead", () -> x.judged(0, -1));
        Kit.none("no such MINUTE is ahead", () -> x.judged(1440, 0));
        Kit.none("no such MINUTE is ahead", () -> x.judged(-1, 0));
    }

    private static void lawOfTheTape() {
        Kit.says("IllegalArgumentException: as port().");
        LyingDials x = stands("dial 3");
        Kit.illegal("an empty tape", () -> x.law(1));
        Kit.feed(x, "dial 2");
        for (int n : new int[] {-1, 21, 700, Integer.MIN_VALUE, Integer.MAX_VALUE}) {
            Kit.illegal("law(" + n + ")", () -> x.law(n));
        }
        Kit.due("nothing changes on the tape", 20, () -> x.count(6));
        Kit.due("nor the LAW", 480, () -> x.lawful(0, 0));
        Kit.due("nor STATUS 0", 0, () -> x.count(7));
        Kit.due("nor fault()", -1, x::fault);
        Kit.due("all of the tape", 0, () -> x.law(20));
        Kit.due("the LAW", 960, () -> x.lawful(0, 0));
        Kit.feed(x, "dial 2");
        Kit.due("none of it", 1, () -> x.law(0));
        Kit.due("at its end", 0, x::fault);
        Kit.due("it is empty then", 0, () -> x.count(6));
    }

    private static void judged(LyingDials x, int minute, int... want) {
        for (int what = 0; what < 4; what++) {
            int w = what;
            Kit.due("judged(" + minute + ", " + w + ")", want[w], () -> x.judged(minute, w));
        }
    }

    private static void judgedAlwaysDark() {
        Kit.says("the DAY most WRONG (2; NONE: it is always DARK)");
        Kit.says("(if it is DARK: all DIALS are)");
        LyingDials x = Kit.of("swing 0;dial bowl 0 0 0;dial bowl 0 0 0 grown 0;dial bowl 0 0 0 grown 364;");
        Kit.law(x, "dial 0");
        judged(x, 359, 0, 0, -1, 365);
        judged(x, 360, 365, 0, 0, 365);
        Kit.law(x, "dial 1");
        judged(x, 360, 0, 0, -1, 0);
        judged(x, 359, 0, 0, -1, 365);
        Kit.law(x, "dial 2");
        judged(x, 360, 364, 0, 0, 364);
        LyingDials y = Kit.of("dial bowl 0 0 0 grown 0;dial painted 120 0 120;");
        Kit.law(y, "dial 0");
        judged(y, 240, 0, 0, -1, 0);
        // A painted one that is as WRONG as can be still tells.
        judged(y, 0, 0, 0, -1, 0);
    }

    private static void judgedMostWrong() {
        Kit.says("the DAY on which it is most WRONG (of like ones the first)");
        LyingDials x = Kit.of("swing 0;dial bowl 0 0 0;dial painted 0 0 0;limps 0 5 0 -5 0 0 0 0 0 0 0 7;"
                + "cloud 341 0 1439;dial bowl 0 0 0 grown 341;");
        Kit.law(x, "dial 1");
        judged(x, 720, 365, 0, 0, 365);
        judged(x, 0, 365, 365 * 720, 0, 365);
        Kit.law(x, "dial 0");
        // 5 WRONG on 62 DAYS, 7 on 23 of MONTH 11's 24; the painted one is right.
        judged(x, 720, 364, 62 * 5 + 23 * 7, 342, 365 - 62 - 24);
        Kit.law(x, "dial 2");
        judged(x, 720, 341, 62 * 5, 31, 365 - 62 - 24);
    }

    private static void judgedNoDialLessWrong() {
        Kit.says("on how many DAYS no DIAL that isn't DARK is less WRONG than it");
        LyingDials x = Kit.of("swing 0;dial bowl 3 0 0;dial bowl -3 0 0;dial bowl 2 0 0 grown 1;"
                + "dial bowl 0 0 0 grown 0;");
        Kit.law(x, "dial 0");
        judged(x, 720, 365, 365 * 3, 0, 364);
        Kit.law(x, "dial 1");
        judged(x, 720, 365, 365 * 3, 0, 364);
        Kit.law(x, "late 1 dial 0");
        judged(x, 720, 365, 365 * 4, 0, 0);
        Kit.law(x, "late -3 dial 0");
        judged(x, 720, 365, 0, 0, 365);
        Kit.law(x, "late 720 dial 0");
        judged(x, 720, 365, 365 * 717, 0, 0);
        x.mend(0, 364, 0);
        judged(x, 720, 365, 364 * 717 + 720, 364, 0);
    }
}
