/** Faults of texts: which one, and where. */
public final class TextFaultTest {
    private static final String DIAL = "dial bowl 0 0 0;";
    private static final String LIMPS = "limps 0 0 0 0 0 0 0 0 0 0 0 0;";

    private TextFaultTest() {
    }

    public static void main(String[] args) {
        goodPorts();
        badPorts();
        tooMany();
        goodLaws();
        badLaws();
        deepLaws();
        deepestParts();
        cutTexts();
        Kit.end();
    }

    private static void port(String text, int fault, int place) {
        LyingDials x = new LyingDials();
        Kit.due("port '" + text + "'", fault, () -> Kit.port(x, text));
        Kit.due("fault of '" + text + "'", place, x::fault);
        Kit.due("refused '" + text + "'", fault == 0 ? 0 : 1, () -> x.count(7));
    }

    private static void goodPorts() {
        String[] good = {"", " ", "\n \n", DIAL, " dial\nbowl\n0\n0\n0\n;\n", "dial bowl-120-50-120;",
            "dial bowl 120 50 120 grown 0;", "dial bowl0 0 0grown364;",
            "dial bowl - 0 - 0000 - 0120;", "limps-30-30-30-30-30-30 30 30 30 30 30 30;", "swing0;", "swing 240 ;",
            "swing 0000;", "cloud 0 0 0;", "cloud 364 1439 1439;", "cloud 364 0 1439;" + LIMPS + DIAL + "swing 1;"};
        for (String text : good) {
            port(text, 0, -1);
        }
    }

    private static void badPorts() {
        Object[][] bad = {{"dial", 1, 4}, {"dial ", 1, 5}, {"dial bowl", 1, 9}, {"dial bowl 0 0 0", 1, 15},
            {"dial bowl 0 0 0 ", 1, 16}, {"dialbowl 0 0 0;", 1, 0}, {"dial Bowl 0 0 0;", 1, 5}, {"bowl", 1, 0},
            {";", 1, 0}, {DIAL + ";", 1, 16}, {DIAL + "5", 1, 16}, {DIAL + "12345", 1, 16}, {"Dial", 1, 0},
            {"\tdial bowl 0 0 0;", 1, 0}, {"dial\rbowl 0 0 0;", 1, 4}, {"dial bowl 0 0 0 0;", 1, 16},
            {"dial bowl 0 0 0 12345;", 1, 16}, {"dial bowl 0 0 0 grow 1;", 1, 16}, {"dial bowl 0 0 0 grown;", 1, 21},
            {"dial bowl 0 0 0 grown -1;", 1, 22}, {"dial bowl 0 0 0 grown 1 2;", 1, 24},
            {"dial bowl 0 0 0 grown 365;", 2, 22}, {"dial bowl 0 0 0 grown 12345;", 2, 22}, {"dial 5", 1, 5},
            {"dial bowl 12345 0 0;", 2, 10}, {"dial bowl 00000 0 0;", 2, 10}, {"dial bowl -00000 0 0;", 2, 11},
            {"dial bowl 121 0 0;", 2, 10}, {"dial bowl - 121 0 0;", 2, 12}, {"dial bowl 0 51 0;", 2, 12},
            {"dial bowl 0 -51 0;", 2, 13}, {"dial bowl 0 0 121;", 2, 14}, {"dial bowl 0 0 -121;", 2, 15},
            {"dial bowl - - 1 0 0;", 1, 12}, {"dial bowl -", 1, 11}, {"dial bowl - east", 1, 12},
            {"dial bowl +5 0 0;", 1, 10}, {"dial bowl 5, 0 0;", 1, 11}, {"swing", 1, 5}, {"swing 241;", 2, 6},
            {"swing -1;", 1, 6}, {"swing 5", 1, 7}, {"swing 5 5;", 1, 8}, {"swing 1;swing", 3, 8},
            {"swing 1; swing 999;", 3, 9}, {"swing swing", 1, 6}, {LIMPS + "limps", 3, 30}, {LIMPS + LIMPS, 3, 30},
            {"limps 0 0 0 0 0 0 0 0 0 0 0;", 1, 27}, {"limps 0 0 0 0 0 0 0 0 0 0 0 0 0;", 1, 30},
            {"limps 0 0 0 0 0 0 0 0 0 0 0 31;", 2, 28}, {"limps -31", 2, 7}, {"cloud", 1, 5}, {"cloud 365", 2, 6},
            {"cloud -1", 1, 6}, {"cloud 0 1440", 2, 8}, {"cloud 0 0 1440", 2, 10}, {"cloud 0 5 4", 2, 10},
            {"cloud 0 5;", 1, 9}, {"cloud 0 5 5", 1, 11}, {"cloud 0 5 5 5;", 1, 12}, {"cloud 0 5 -5;", 1, 10},
            {"swing (", 1, 6}, {"swing 5(", 1, 7}, {"dial east 999 999 999;sun", 2, 10}, {"dial sun 999;", 1, 5},
            {"vial bowl 0 0 0;", 1, 0}, {"dialz bowl 0 0 0;", 1, 0}, {"dial z", 1, 5}, {"dial bowlz", 1, 5},
            {"dial fowl 0 0 0;", 1, 5}, {"swing 1;\u00e9", 1, 8}, {"swing 1\u00e9;", 1, 7}};
        for (Object[] row : bad) {
            port((String) row[0], (Integer) row[1], (Integer) row[2]);
        }
    }

    private static void tooMany() {
        port(DIAL.repeat(9), 0, -1);
        port(DIAL.repeat(9) + "dial", 2, 144);
        port(DIAL.repeat(9) + " dial sun", 2, 145);
        port(DIAL.repeat(9) + "dia", 1, 144);
        port("cloud 1 2 3;".repeat(20), 0, -1);
        port("cloud 1 2 3;".repeat(20) + "\ncloud 999", 2, 241);
        port(DIAL.repeat(9) + "cloud 1 2 3;".repeat(20) + LIMPS + "swing 5;", 0, -1);
        port(" ".repeat(692) + "swing 5;", 0, -1);
        port(" ".repeat(693) + "swing 5", 1, 700);
    }

    private static void law(String text, int fault, int place) {
        LyingDials x = Kit.of("dial painted 0 0 0;dial painted 1 0 0;dial painted 2 0 0;");
        Kit.due("law '" + text + "'", fault, () -> Kit.law(x, text));
        Kit.due("fault of '" + text + "'", place, x::fault);
        Kit.due("refused '" + text + "'", fault == 0 ? 0 : 1, () -> x.count(7));
        if (fault == 0) {
            Kit.due("lawful '" + text + "'", 1, () -> x.lawful(0, 0) >= 0 ? 1 : 0);
        } else {
            Kit.illegal("lawful '" + text + "'", () -> x.lawful(0, 0));
        }
    }

    private static void goodLaws() {
        String[] good = {"dial 0", " dial\n0 ", "dial2", "dial 0002", "middle(0)", "middle ( 2 , 1 , 0 )",
            "first(dial 0)", "first(dial0,dial1,dial2)", "mean(dial 0,dial 0)", "late 720 dial 0",
            "late-720dial 0", "late - 5 dial 0",
            "if month 0 then dial 0 else dial 1 end", "if month 11 then dial 0 else dial 1 end",
            "if not not dark dial 0then dial 0else dial 1end", "if before(dial 0,dial 1)then dial 0 else dial 1 end"};
        for (String text : good) {
            law(text, 0, -1);
        }
        law("first(" + "dial0,".repeat(114) + "dial 0)", 0, -1);
    }

    private static void badLaws() {
        Object[][] bad = {{"", 1, 0}, {"  ", 1, 2}, {"5", 1, 0}, {"12345", 1, 0}, {"(", 1, 0}, {";", 1, 0},
            {"Dial 0", 1, 0}, {"sun", 4, 0}, {"then", 4, 0}, {"month 5", 4, 0}, {"not", 4, 0}, {"dark dial 0", 4, 0},
            {"dials 0", 4, 0},
            {"dial", 1, 4}, {"dial dial", 1, 5}, {"dial -1", 1, 5}, {"dial 3", 2, 5}, {"dial 00000", 2, 5},
            {"dial 0 0", 1, 7}, {"dial 0 dial", 1, 7}, {"dial 0;", 1, 6}, {"dial 0 12345", 1, 7}, {"middle", 1, 6},
            {"middle 0", 1, 7}, {"middle()", 1, 7}, {"middle(,)", 1, 7}, {"middle(dial 0)", 1, 7}, {"middle(3)", 2, 7},
            {"middle(0 1)", 1, 9}, {"middle(0,)", 1, 9}, {"middle(0,1", 1, 10}, {"middle(0,1,0)", 3, 11},
            {"middle(0,000)", 3, 9}, {"middle(3,3)", 2, 7}, {"middle(0,00000)", 2, 9}, {"middle(1,1 sun", 3, 9},
            {"first", 1, 5}, {"first(", 1, 6}, {"first()", 1, 6}, {"first(sun)", 4, 6}, {"first(dial 0", 1, 12},
            {"first(dial 0,)", 1, 13}, {"first(dial 0 dial 1)", 1, 13}, {"first(dial 0,dark dial 0)", 4, 13},
            {"mean", 1, 4}, {"mean(dial 0)", 1, 11}, {"mean(dial 0,dial 1,dial 2)", 1, 18}, {"mean(,dial 1)", 1, 5},
            {"mean dial 0", 1, 5}, {"mean(dial 0,dial 1", 1, 18}, {"late", 1, 4}, {"late dial 0", 1, 5},
            {"late 5", 1, 6}, {"late 721 dial 0", 2, 5}, {"late -721 dial 0", 2, 6}, {"late 12345 dial 0", 2, 5},
            {"late 5 5", 1, 7}, {"late 5 sun", 4, 7}, {"late --5 dial 0", 1, 6}, {"if", 1, 2}, {"if 5", 1, 3},
            {"if sun", 4, 3}, {"if dial 0 then", 4, 3}, {"if if", 4, 3}, {"if month", 1, 8}, {"if month 12 sun", 2, 9},
            {"if month -1", 1, 9}, {"if month 00000", 2, 9}, {"if month 1 dial 0", 1, 11}, {"if month 1 then", 1, 15},
            {"if month 1 then sun", 4, 16}, {"if month 1 then dial 0 end", 1, 23},
            {"if month 1 then dial 0 else dial 0", 1, 34}, {"if month 1 then dial 0 else dial 0 sun", 1, 35},
            {"if month 1 then dial 0 else end", 4, 28}, {"if not dial 0", 4, 7}, {"if not", 1, 6}, {"if not (", 1, 7},
            {"if dark month 1", 4, 8}, {"if dark (dial 0)", 1, 8}, {"if before dial 0", 1, 10},
            {"if before(dial 0) then", 1, 16}, {"if before(month 0,dial 0)", 4, 10}, {"dial 0\u00e9", 1, 6},
            {"\u00e9", 1, 0}, {"\tdial 0", 1, 0}, {"z", 4, 0}, {"dialz 0", 4, 0}, {"vial 0", 4, 0}};
        for (Object[] row : bad) {
            law((String) row[0], (Integer) row[1], (Integer) row[2]);
        }
        LyingDials x = new LyingDials();
        Kit.due("no dials", 2, () -> Kit.law(x, "dial 0"));
        Kit.due("no dials", 2, () -> Kit.law(x, "middle(0)"));
        Kit.due("at the number", 7, x::fault);
    }

    private static void deepLaws() {
        String late = "late 0 ";
        law(late.repeat(11) + "dial 0", 0, -1);
        law(late.repeat(12) + "dial 0", 2, 84);
        law(late.repeat(12) + "sun", 2, 84);
        law(late.repeat(12) + "5", 1, 84);
        law(late.repeat(12), 1, 84);
        law(late.repeat(11) + "sun", 4, 77);
        law(late.repeat(11) + "middle(0,1)", 0, -1);
        law(late.repeat(10) + "if month 0 then dial 0 else dial 0 end", 0, -1);
        law(late.repeat(11) + "if month 0 then dial 0 else dial 0 end", 2, 80);
        law(late.repeat(9) + "if not month 0 then dial 0 else dial 0 end", 0, -1);
        law(late.repeat(10) + "if not month 0 then dial 0 else dial 0 end", 2, 77);
        law(late.repeat(9) + "if dark dial 0 then dial 0 else dial 0 end", 0, -1);
        law(late.repeat(10) + "if dark dial 0 then dial 0 else dial 0 end", 2, 78);
        law(late.repeat(10) + "if before(dial 0,dial 0) then dial 0 else dial 0 end", 2, 80);
        law(late.repeat(10) + "first(dial 0,late 0 dial 0)", 2, 90);
        law(late.repeat(11) + "mean(dial 0,dial 0)", 2, 82);
        law("if " + "not ".repeat(10) + "month 0 then dial 0 else dial 0 end", 0, -1);
        law("if " + "not ".repeat(11) + "month 0 then dial 0 else dial 0 end", 2, 47);
        law("if " + "not ".repeat(11) + "sun", 2, 47);
        law("first(" + late.repeat(10) + "dial 0," + late.repeat(10) + "dial 0)", 0, -1);
        nested("first(", ")");
        nested("first(dial 0,", ")");
        nested("mean(", ",dial 0)");
        nested("mean(dial 0,", ")");
        nested("if month 0 then ", " else dial 0 end");
        nested("if month 1 then dial 0 else ", " end");
        nestedTests("if dark ", " then dial 1 else dial 0 end");
        nestedTests("if before(", ",dial 0) then dial 1 else dial 0 end");
        nestedTests("if before(dial 0,", ") then dial 1 else dial 0 end");
    }

    private static void nested(String open, String close) {
        law(open.repeat(11) + "dial 0" + close.repeat(11), 0, -1);
        law(open.repeat(11) + "late 1 dial 0" + close.repeat(11), 2, 11 * open.length() + 7);
    }

    /** Two levels each. */
    private static void nestedTests(String open, String close) {
        law(open.repeat(5) + "late 1 dial 0" + close.repeat(5), 0, -1);
        law(open.repeat(5) + "late 1 late 1 dial 0" + close.repeat(5), 2, 5 * open.length() + 14);
    }

    /** That what stands deepest counts: the tests of these ask only of it. */
    private static void deepestParts() {
        LyingDials x = Kit.of("dial painted 0 0 0;dial painted 1 0 0;");
        String[] laws = {"late 0 if month 0 then dial 0 else dial 1 end", "if dark dial 0 then dial 1 else dial 0 end",
            "if not month 0 then dial 1 else dial 0 end", "if before(dial 0,dial 1) then dial 0 else dial 1 end"};
        for (String text : laws) {
            Kit.due("a deep law", 0, () -> Kit.law(x, "late 0 ".repeat(9) + text));
            Kit.due("tells by its deepest part: " + text, 720, () -> x.lawful(0, 0));
        }
    }

    /** Bytes behind the first n count for nothing, whatever they are. */
    private static void cutTexts() {
        LyingDials x = Kit.of("dial painted 0 0 0;");
        Kit.feed(x, "if month 1 then dial 0 else dial 0 endless");
        Kit.due("a cut word", 0, () -> x.law(38));
        Kit.feed(x, "dial 01");
        Kit.due("a cut number", 0, () -> x.law(6));
        Kit.feed(x, "dial 0 sun");
        Kit.due("a cut text", 0, () -> x.law(7));
        Kit.feed(x, "swing 12;swing");
        Kit.due("a cut port", 0, () -> x.port(9));
        Kit.feed(x, " ".repeat(696) + "dial");
        Kit.due("a word at the tape's end", 1, () -> x.port(700));
        Kit.due("at the text's end", 700, x::fault);
        Kit.feed(x, " ".repeat(690) + "swing 1234");
        Kit.due("a number at the tape's end", 2, () -> x.port(700));
    }
}
