/** The sentences of the section "Programs" and of promises 17 to 19. */
final class ProgramSentences {
    private static final String TWO = "come(2) come(5) addBank(700,500) addBank(90,3000) grant(0,0,1) grant(1,0,1) grant(0,1,1)"
        + " cut(0,0,100) cut(1,0,20)";

    private ProgramSentences() {
    }

    static void tell(Sentences s) {
        text(s);
        commands(s);
        tokens(s);
        numbers(s);
        spaces(s);
        oneByOne(s);
        places(s);
        append(s);
        clearText(s);
        run(s);
    }

    /** A run of one text on a new object, with the answer that is due. */
    private static String ran(String text, int answer) {
        return "'" + text + "' run()=" + answer;
    }

    private static void text(Sentences s) {
        s.in("Programs");
        s.says(
            "A text of at most 140 characters can be run as a program: commands (possibly none), each of which ends with"
                + " \";\", a word and then numbers:");
        s.due(
            "'day0 0;'*20 count(9)=140 run()=20 count(6)=20 count(9)=0",
            "'house 9;' ' '*132 count(9)=140 run()=1 household(0,0)=9",
            "' '*132 'house 9;' count(9)=140 run()=1 household(0,0)=9",
            "run()=0 count(1)=0",
            "' ' run()=0",
            "' '*140 run()=0",
            "'house 1' run()=-1007 count(1)=0",
            "'house 1;house 2' run()=-1015 count(1)=0",
            "'1 house;' run()=-1000",
            "';' run()=-1000");
        s.refused("'house 9;' ' '*132", "append(59)=-3", "append(32)=-3");
        s.refused("'house 9' ' '*132 'x'", "append(59)=-3", "run()=-1139");
    }

    private static void commands(Sentences s) {
        s.in("Programs");
        s.says("\"house\" SPADES as come()");
        sameAs(s, "house 1;", "come(1)");
        sameAs(s, "house 9;", "come(9)");
        fails(s, TWO, "house 0;", "house 10;");
        fails(s, "come(1)*6", "house 1;");

        s.says("\"bank\" ALLOWANCE STRENGTH as addBank()");
        sameAs(s, "bank 0 100;", "addBank(0,100)");
        sameAs(s, "bank 5000 3000;", "addBank(5000,3000)");
        fails(s, TWO, "bank 5001 3000;", "bank 5000 3001;", "bank 5000 99;");
        fails(s, "addBank(1,100)*4", "bank 5000 3000;");

        s.says("\"right\" HOUSEHOLD BANK as grant() with 1");
        sameAs(s, "right 0 0;", "grant(0,0,1)");
        sameAs(s, "right 1 1;", "grant(1,1,1)");
        s.due(TWO + " 'right 1 1;right 1 1;' run()=2 bank(1,4)=3");
        fails(s, TWO, "right 2 0;", "right 0 2;");

        s.says("\"cut\" HOUSEHOLD BANK TURFS as cut()");
        sameAs(s, "cut 0 1 90;", "cut(0,1,90)");
        sameAs(s, "cut 1 0 1;", "cut(1,0,1)");
        fails(s, TWO, "cut 0 1 91;", "cut 1 1 1;", "cut 0 0 0;", "cut 0 0 1001;", "cut 2 0 1;", "cut 0 2 1;");
        fails(s, Sentences.FULL + " clearText()", "cut 0 0 1;");

        s.says("\"turn\" STACK as turn()");
        sameAs(s, "turn 0;", "turn(0)");
        sameAs(s, "turn 1;", "turn(1)");
        fails(s, TWO, "turn 2;");
        fails(s, TWO + " turn(1)*3", "turn 1;");

        s.says("\"cart\" STACK TURFS as cart()");
        sameAs(s, "cart 0 100;", "cart(0,100)");
        sameAs(s, "cart 1 1;", "cart(1,1)");
        fails(s, TWO, "cart 0 101;", "cart 2 1;", "cart 0 0;", "cart 0 1001;");
        fails(s, TWO + " day(0,9)", "cart 0 71;");

        s.says("\"day\" WIND RAIN as day()");
        sameAs(s, "day 0 9;", "day(0,9)");
        sameAs(s, "day 9 0;", "day(9,0)");
        fails(s, TWO, "day 10 0;", "day 0 10;");
    }

    private static void sameAs(Sentences s, String command, String call) {
        s.looksTheSame(TWO + " '" + command + "' run()=1", TWO + " " + call);
    }

    /** These programs fail at their first word, and nothing is changed by them. */
    private static void fails(Sentences s, String scene, String... programs) {
        for (String program : programs) {
            s.refused(scene + " '" + program + "'", "run()=-1000");
        }
    }

    private static void tokens(Sentences s) {
        s.in("Programs");
        s.says("Tokens are maximal runs of letters a to z, maximal runs of digits, and any other character that is no space");
        s.due(
            ran("house1;bank2 100;right0 0;cut0 0 2;turn0;day3 0;cart0 1;", 7),
            ran("housez 1;", -1000),
            ran("ahouse 1;", -1000),
            ran("housea 1;", -1000),
            ran("hous 1;", -1000),
            ran("hous", -1000),
            ran("house` 1;", -1005),
            ran("house{ 1;", -1005),
            ran("`house 1;", -1000),
            ran("{house 1;", -1000),
            ran("HOUSE 1;", -1000),
            ran("House 1;", -1000),
            ran("housE 1;", -1000),
            ran("houseE 1;", -1005));
        s.due(
            ran("house 1/;", -1007),
            ran("house 1:;", -1007),
            ran("house /1;", -1006),
            ran("house :1;", -1006),
            ran("house 12;", -1000),
            ran("house 1.;", -1007),
            ran("house -1;", -1006),
            ran("house +1;", -1006),
            ran("house --1;", -1006),
            ran("house 1;;", -1008),
            ran("house 1 ;;", -1009),
            ran("house;1;", -1005),
            ran("house 1,house 1;", -1007));
        // Character 10 is a line's end, 48 the digit 0, 97 the letter a, 176 and 225 are 128 more.
        for (int character : new int[] {1, 9, 10, 13, 31, 33, 127, 160, 176, 225, 255}) {
            s.due(
                "append(" + character + ") 'turn 0;' run()=-1000",
                "'turn' append(" + character + ") '0;' run()=-1004",
                "'turn 0' append(" + character + ") run()=-1006",
                "'turn 0' append(" + character + ") ';' run()=-1006",
                "'day 0 0;' append(" + character + ") run()=-1008");
        }
        s.due("append(48) append(59) run()=-1000", "'turn' append(48) append(59) run()=-1000");
    }

    private static void numbers(Sentences s) {
        s.in("Programs");
        s.says("A number is a run of 1 to 4 digits, the first of several not 0");
        s.due(
            ran("day 0 0;", 1),
            ran("day 9 9;", 1),
            ran("bank 10 100;", 1),
            ran("bank 4999 2999;", 1) + " bank(0,0)=4999 bank(0,1)=2999",
            ran("bank 1009 1090;", 1) + " bank(0,0)=1009 bank(0,1)=1090",
            ran("bank 0 567;", 1) + " bank(0,1)=567");
        s.due(
            ran("day 00 0;", -1004),
            ran("day 01 0;", -1004),
            ran("day 0 00;", -1006),
            ran("day 0 09;", -1006),
            ran("bank 1 0100;", -1007),
            ran("bank 0000 100;", -1005),
            ran("bank 10000 100;", -1005),
            ran("bank 00001 100;", -1005),
            ran("bank 1 10000;", -1007),
            ran("bank 1 4294967396;", -1007),
            ran("bank 1 18446744073709551716;", -1007),
            ran("house ;", -1006),
            ran("house a;", -1006));
        // Numbers of four digits that no call takes: the place is that of the word.
        s.due(ran(" bank 9999 100;", -1001), ran(" house 1000;", -1001), ran(" turn 9999;", -1001));
        s.due("come(1) addBank(5000,3000) grant(0,0,1) 'cut 0 0 1000;cart 0 1000;' run()=2 household(0,2)=1000");
    }

    private static void spaces(Sentences s) {
        s.in("Programs");
        s.says(
            "Spaces (code 32) may stand before, between and after tokens; they are needed only between two runs of letters and"
                + " between two runs of digits");
        s.due(
            ran("  house   1  ;  ", 1),
            ran(" house 1 ; house 2 ; ", 2),
            ran("house1;house2;", 2),
            ran("bank5 100;", 1) + " bank(0,1)=100",
            ran("bank 5100;", -1009),
            ran("bank5100;", -1008),
            ran("bank12345;", -1004),
            ran("house 1 2;", -1008),
            ran("house 12;", -1000),
            ran("turnturn 0;", -1000),
            ran("ho use 1;", -1000),
            ran("house 1house 1;", -1007),
            ran("house1house1;", -1006),
            "come(1) addBank(9,100) grant(0,0,1) 'cut0 0 9;turn0;cart0 9;day0 0;' run()=4");
    }

    private static void oneByOne(Sentences s) {
        s.in("Programs");
        s.says("The commands are read and run one by one, each as its \";\" is read");
        s.due(
            ran("house 1;bank 5 100;right 0 0;cut 0 0 5;cart 0 5;", 5),
            ran("right 0 0;house 1;bank 5 100;", -1000),
            ran("house 1;bank 5 100;cut 0 0 5;right 0 0;", -1019),
            ran("house 0;x", -1000),
            ran("house 0;house", -1000),
            ran("house 0x;", -1007),
            ran("house 0", -1007),
            ran("turn 0 turn 0;", -1007));

        s.says(
            "A program fails at the first token that is not allowed where it stands, and at the first command whose call"
                + " returns an error code (the place is then that of its word)");
        s.due(
            ran("x y z", -1000),
            ran("house x y", -1006),
            ran("house 1 x y", -1008),
            ran("house 1; x", -1009),
            ran("join 0 1;", -1000),
            ran("bank 1;", -1006),
            ran("bank;", -1004),
            ran("cut 0 0;", -1007),
            ran("day 0 0 0;", -1008),
            ran("turn;", -1004),
            ran("turn 0 0;", -1007),
            ran("cart 0;", -1006),
            ran("right 0;", -1007),
            ran("cut 1 2 3 4;", -1010),
            ran("house house;", -1006));
        s.due(
            ran("house 0;", -1000),
            ran("  house 0;", -1002),
            ran("house 1;  house 0;house 0;", -1010),
            ran("house 1;house 1;house 1;house 1;house 1;house 1; house 1;", -1049),
            ran("house 1;day 10 0;", -1008),
            ran("house 1;bank 5 100;right 0 0;cut 0 0 6;", -1029),
            ran("house 1;bank 5 100;right 0 0;cut 0 0 5;cart 0 6;", -1039),
            ran("house 1;bank 5 100;right 0 0;cut 0 0 5;cart 0 5;turn 0;", -1048));
    }

    private static void places(Sentences s) {
        s.in("Programs");
        s.says(
            "The place of a failure is the offset (from 0) of the first character of the token, or the length of the text if"
                + " it ends where something is missing");
        s.due(ran("houses", -1000), ran("   houses 1;", -1003), ran("house 1;   xyz", -1011), ran("house     12345;", -1010));
        s.due(
            ran("house", -1005),
            ran("house   ", -1008),
            ran("house 1", -1007),
            ran("house 1   ", -1010),
            ran("bank 1", -1006),
            ran("bank 1 ", -1007),
            ran("bank 1 100", -1010),
            ran("cut 0 0", -1007),
            ran("day 0 0;day", -1011),
            ran("house 0", -1007));
        s.due(
            "'house' ' '*135 run()=-1140",
            "'house' ' '*134 '7' run()=-1140",
            "'house' ' '*133 '7;' run()=1",
            "'day 0 0;' ' '*131 'x' run()=-1139",
            "' '*139 ';' run()=-1139",
            "'day 0 0;' ' '*127 'house' run()=-1140");
        // What an earlier text left behind the end of this one is no part of it.
        s.due(
            "'house 1234;' clearText() 'house 1' run()=-1007",
            "'turn 0;' run()=-1000 clearText() 'turn' run()=-1004",
            "'houses' clearText() 'house' run()=-1005");

        s.says("If a program fails, nothing that it has done stays");
        s.refused(Sentences.SOME, "run()=-1008");
        s.refused(Sentences.FULL, "run()=-1021");
        s.refused(Sentences.SOME + " clearText() 'house 1;bank 1 100;right 0 1;cut 0 0 1;turn 1;cart 0 40;day 9 9;endYear;'",
            "run()=-1064");
        s.refused(Sentences.SOME + " clearText() 'house 1;bank 1 100;right 0 1;cut 0 0 1;turn 1;cart 0 40;day 1 9;day 10 0;'",
            "run()=-1064");
        s.refused(Sentences.SOME + " clearText() 'day 9 0;cart 1 1;turn 0'", "run()=-1023");
    }

    private static void append(Sentences s) {
        s.in("Promise 17");
        s.says("`int append(int character)`: Appends a character to the text");
        s.due(
            "'house' append(32) append(55) append(59) count(9)=8 run()=1 household(0,0)=7",
            "come(1) append(1) count(8)=1 undo()=0 count(9)=1");
        s.says("- `character`: character code, 1 to 255");
        s.range("", "append(#)", 1, 255);
        s.range(Sentences.SOME, "append(#)", 1, 255);
        s.says("Returns the new length of the text");
        s.due("append(1)=1 append(255)=2 append(32)=3 clearText() append(59)=1", "' '*138 append(32)=139 append(32)=140");
        s.says("INVALID_ARGUMENT if character is out of range");
        s.refused(Sentences.FULL, "append(0)=-1", "append(256)=-1", "append(-1)=-1");
        s.says("CAPACITY_EXCEEDED if the text already has 140 characters");
        s.due("' '*139 append(32)=140 append(32)=-3 clearText()=140 append(32)=1");
        s.refused(Sentences.FULL, "append(1)=-3", "append(59)=-3", "append(255)=-3");
    }

    private static void clearText(Sentences s) {
        s.in("Promise 18");
        s.says("`int clearText()`: Makes the text empty");
        s.due("'turn 0;' clearText() count(9)=0 run()=0", "come(1) 'x' clearText() count(8)=1 undo()=0 count(1)=0 count(9)=0");
        s.same("come(1)", "come(1) 'turn 0;' clearText()");
        s.says("Returns the previous length of the text");
        s.due(
            "clearText()=0 'x' clearText()=1 clearText()=0",
            "' '*140 clearText()=140",
            "'house 1;' run() clearText()=0",
            "'house 0;' run()=-1000 clearText()=8");
    }

    private static void run(Sentences s) {
        s.in("Promise 19");
        s.says("`int run()`: Runs the text as a program");
        s.due("'house 4;house 5;day 1 2;' run()=3 household(0,0)=4 household(1,0)=5 count(5)=2 count(6)=1");
        s.says(
            "If it does not fail, this is one action, also without commands, and the text becomes empty; if it fails, the text"
                + " is kept");
        s.due(
            "'house 4;house 5;day 1 2;' run() count(8)=1 count(9)=0 undo()=0 count(1)=0 count(6)=0 count(9)=0",
            "run()=0 count(8)=1 run()=0 count(8)=2 ' ' run()=0 count(8)=3 count(9)=0",
            "come(1)*5 count(8)=5 run()=0 count(8)=5 undo()=4 count(1)=5 undo()=3 count(1)=4",
            "'house 0;' run()=-1000 count(8)=0 count(9)=8 run()=-1000 clearText()=8",
            "'house 1' run()=-1007 append(59)=8 run()=1 count(1)=1");
        s.action(Sentences.SOME + " clearText()", "run()");
        s.action("", "run()");
        String cleared = Sentences.SOME + " clearText()";
        s.same(cleared, cleared + " 'house 1;turn 0;take 1;' run()=-1015 clearText() 'turn 0;day 1 1;' run()=2 undo()");
        s.says("Returns the number of commands");
        s.due(
            ran("house 1;", 1),
            ran("house 1;house 1;", 2),
            "run()=0",
            "'day0 0;'*20 run()=20",
            "'day0 0;'*10 run()=10 'day0 0;' run()=1");
        s.says("-1000 minus the place of the failure if it fails");
        s.due(ran("x", -1000), ran("turn", -1004), "' '*139 'x' run()=-1139", "' '*136 'turn' run()=-1140");
    }
}
