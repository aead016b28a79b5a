/** Promises 17 to 19: the text and programs. */
public final class ProgramTest {
    private static final Checks checks = new Checks("ProgramTest");

    public static void main(String[] args) {
        append();
        clearText();
        runsAllCommands();
        spaces();
        wrongTokens();
        textThatEnds();
        fullTextThatEnds();
        numbers();
        failingCommands();
        nothingStays();
        oneAction();
        checks.end();
    }

    private static void append() {
        PeatShares x = new PeatShares();
        checks.due("append(0)", x.append(0), -1);
        checks.due("append(256)", x.append(256), -1);
        checks.due("append(-1)", x.append(-1), -1);
        checks.due("append(1)", x.append(1), 1);
        checks.due("append(255)", x.append(255), 2);
        for (int length = 3; length <= 140; length++) {
            checks.due("append(32)", x.append(32), length);
        }
        checks.due("append(32) as the 141st", x.append(32), -3);
        checks.due("append(0) as the 141st", x.append(0), -1);
        checks.due("count(9)", x.count(9), 140);
        checks.due("count(8), no action", x.count(8), 0);
    }

    private static void clearText() {
        PeatShares x = new PeatShares();
        checks.due("clearText() of none", x.clearText(), 0);
        Checks.write(x, "house 1;");
        checks.due("clearText()", x.clearText(), 8);
        checks.due("clearText() again", x.clearText(), 0);
        checks.due("run() of no text", x.run(), 0);
        checks.due("count(1)", x.count(1), 0);
        x.undo();
        checks.due("count(8), no action", x.count(8), 0);
    }

    private static void runsAllCommands() {
        PeatShares x = new PeatShares();
        String text = "house 2;house 3;bank 500 400;right 1 0;cut 1 0 100;cut 1 0 50;turn 1;turn 1;day 9 0;cart 0 10;day 4 3;";
        checks.due("run()", Checks.program(x, text), 11);
        checks.due("count(9)", x.count(9), 0);
        checks.due("household(0, 0)", x.household(0, 0), 2);
        checks.due("household(1, 0)", x.household(1, 0), 3);
        checks.due("bank(0, 0)", x.bank(0, 0), 500);
        checks.due("bank(0, 1)", x.bank(0, 1), 400);
        checks.due("bank(0, 4)", x.bank(0, 4), 2);
        checks.due("stack(0, 0)", x.stack(0, 0), 1);
        checks.due("stack(0, 2)", x.stack(0, 2), 90);
        checks.due("stack(0, 4)", x.stack(0, 4), 0);
        checks.due("stack(1, 4)", x.stack(1, 4), 2);
        // 100000 * 55 / 64 = 85937.5, then 85937 * 60 / 64 = 80565.9, and 4500
        checks.due("stack(0, 3)", x.stack(0, 3), 85065);
        checks.due("household(1, 2)", x.household(1, 2), 10);
        checks.due("count(5)", x.count(5), 3);
        checks.due("count(6)", x.count(6), 2);
        checks.due("run() of the empty text", x.run(), 0);
    }

    private static void spaces() {
        PeatShares x = new PeatShares();
        checks.due("spaces alone", Checks.program(x, "   "), 0);
        checks.due("spaces all over", Checks.program(x, "  house   3 ;  bank 5   100;right 0  0  ;  "), 3);
        checks.due("no spaces", Checks.program(x, "house4;cut0 0 5;turn0;"), 3);
        checks.due("a space in a word", Checks.program(x, "ho use 3;"), -1000);
        checks.due("a space in a number", Checks.program(x, "house 1 2;"), -1008);
        checks.due("words without a space", Checks.program(x, "turn 0;turnturn 0;"), -1007);
        checks.due("a tabulator is no space", Checks.program(x, "turn\t0;"), -1004);
        checks.due("a new line is no space", Checks.program(x, "turn 0;\n"), -1007);
        checks.due("character 160 is no space", Checks.program(x, " \u00a0turn 0;"), -1001);
    }

    private static void wrongTokens() {
        PeatShares x = new PeatShares();
        checks.due(";", Checks.program(x, ";"), -1000);
        checks.due("house 1;;", Checks.program(x, "house 1;;"), -1008);
        checks.due("5", Checks.program(x, " 5;"), -1001);
        checks.due("a word that is none", Checks.program(x, "house 1; join 0 1;"), -1009);
        checks.due("a longer word, z", Checks.program(x, "housez 1;"), -1000);
        checks.due("a longer word, a", Checks.program(x, "housea 1;"), -1000);
        checks.due("a sign ahead of a", Checks.program(x, "house` 1;"), -1005);
        checks.due("a sign behind z", Checks.program(x, "house{ 1;"), -1005);
        checks.due("a sign ahead of 0", Checks.program(x, "house 1/;"), -1007);
        checks.due("a sign behind 9", Checks.program(x, "house 1:;"), -1007);
        checks.due("a great letter", Checks.program(x, "House 1;"), -1000);
        checks.due("a great letter behind", Checks.program(x, "houseE 1;"), -1005);
        checks.due("a number missing", Checks.program(x, "bank 1;"), -1006);
        checks.due("all numbers missing", Checks.program(x, "day;"), -1003);
        checks.due("a number too many", Checks.program(x, "house 1 1;"), -1008);
        checks.due("a word for a number", Checks.program(x, "house a;"), -1006);
        checks.due("a minus", Checks.program(x, "house -1;"), -1006);
        checks.due("a word for a ;", Checks.program(x, "house 1 house 2;"), -1008);
        checks.due("a sign above 127", Checks.program(x, "house 1\u00e9;"), -1007);
        checks.due("count(1)", x.count(1), 0);
    }

    private static void textThatEnds() {
        PeatShares x = new PeatShares();
        checks.due("house", Checks.program(x, "house"), -1005);
        checks.due("house with a space", Checks.program(x, "house "), -1006);
        checks.due("house 1", Checks.program(x, "house 1"), -1007);
        checks.due("house 1 with spaces", Checks.program(x, "house 1   "), -1010);
        checks.due("hou, which is no word", Checks.program(x, "hou"), -1000);
        checks.due("a second one that ends", Checks.program(x, "house 1; cut 0 0"), -1016);
    }

    private static void fullTextThatEnds() {
        PeatShares x = new PeatShares();
        StringBuilder full = new StringBuilder("house 1");
        while (full.length() < 140) {
            full.append(' ');
        }
        checks.due("140 characters", Checks.program(x, full.toString()), -1140);
        full.setCharAt(139, 'x');
        checks.due("140 characters, the last one a letter", Checks.program(x, full.toString()), -1139);
        x = new PeatShares();
        full.setCharAt(6, ' ');
        full.setCharAt(139, '7');
        checks.due("140 characters, the last one a digit", Checks.program(x, full.toString()), -1140);
        full.setCharAt(139, ';');
        full.setCharAt(138, '7');
        checks.due("140 characters, which are a command", Checks.program(x, full.toString()), 1);
        checks.due("an earlier text's digits", Checks.program(x, "turn 1234"), -1009);
        checks.due("house 1 where these stood", Checks.program(x, "house 1"), -1007);
        checks.due("house where these stood", Checks.program(x, "house"), -1005);
    }

    private static void numbers() {
        PeatShares x = new PeatShares();
        checks.due("0 is a number", Checks.program(x, "bank 0 100;"), 1);
        checks.due("00 is none", Checks.program(x, "day 0 00;"), -1006);
        checks.due("01 is none", Checks.program(x, "house 01;"), -1006);
        checks.due("four digits", Checks.program(x, "bank 4999 2999;"), 1);
        checks.due("bank(1, 0)", x.bank(1, 0), 4999);
        checks.due("bank(1, 1)", x.bank(1, 1), 2999);
        checks.due("9999 is a number, and too great", Checks.program(x, "bank 9999 100;"), -1000);
        checks.due("five digits", Checks.program(x, "bank 10000 100;"), -1005);
        checks.due("five digits, each 0", Checks.program(x, "bank 00000 100;"), -1005);
        checks.due("many digits", Checks.program(x, "bank 1 99999999999999999999;"), -1007);
    }

    private static void failingCommands() {
        PeatShares x = new PeatShares();
        checks.due("the first command fails", Checks.program(x, "house 0;"), -1000);
        checks.due("its word is behind spaces", Checks.program(x, "  house 0;"), -1002);
        checks.due("the second one fails", Checks.program(x, "house 1; house 10; x"), -1009);
        checks.due("tokens before its ; go first", Checks.program(x, "house 0 x;"), -1008);
        checks.due("a failing command before a wrong token", Checks.program(x, "house 0; x"), -1000);
        checks.due("no room", Checks.program(x, "house 1;house 1;house 1;house 1;house 1;house 1;house 1;"), -1048);
        checks.due("no bank", Checks.program(x, "house 1;right 0 0;"), -1008);
        checks.due("no right", Checks.program(x, "house 1;bank 9 100;cut 0 0 1;"), -1019);
        checks.due("no stack", Checks.program(x, "turn 0;"), -1000);
        checks.due("no stack to cart", Checks.program(x, "cart 0 1;"), -1000);
        checks.due("no such day", Checks.program(x, "day 0 0;day 0 10;"), -1008);
        checks.due("count(1)", x.count(1), 0);
    }

    private static void nothingStays() {
        PeatShares x = new PeatShares();
        Checks.program(x, "house 3;bank 500 900;right 0 0;cut 0 0 100;");
        x.take(0);
        x.day(5, 1);
        String before = Checks.whole(x);
        String text = "house 1;bank 1 100;cut 0 0 10;turn 0;turn 1;cart 0 5;day 9 9;cart 1 10;right 1 0;turn 7;";
        int place = text.indexOf("turn 7");
        checks.due("run()", Checks.program(x, text), -1000 - place);
        checks.due("count(9), the text is kept", x.count(9), text.length());
        checks.due("run() again", x.run(), -1000 - place);
        x.clearText();
        checks.due("all is as before", Checks.whole(x).equals(before) ? 1 : 0, 1);
        checks.due("restore(0)", x.restore(0), 0);
        checks.due("count(5) of the snapshot", x.count(5), 0);
    }

    private static void oneAction() {
        PeatShares x = new PeatShares();
        checks.due("run() of three", Checks.program(x, "house 1;house 2;house 3;"), 3);
        checks.due("count(8)", x.count(8), 1);
        checks.due("run() of none", x.run(), 0);
        checks.due("count(8)", x.count(8), 2);
        checks.due("a failing one", Checks.program(x, "house 4;house 0;"), -1008);
        checks.due("count(8)", x.count(8), 2);
        checks.due("undo()", x.undo(), 1);
        checks.due("count(1)", x.count(1), 3);
        checks.due("undo()", x.undo(), 0);
        checks.due("count(1)", x.count(1), 0);
        checks.due("count(9), undo leaves the text", x.count(9), 16);
    }
}
