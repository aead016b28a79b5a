/** The sentences of promises 1 to 13: households, banks, rights and turf. */
final class ActionSentences {
    private static final String SOME = Sentences.SOME;
    private static final String FULL = Sentences.FULL;
    private static final String ONE = TermsSentences.ONE;
    private static final String TURNED = TermsSentences.TURNED;
    /** Two households with the right to both banks, and turf enough for each. */
    private static final String TWO = "come(1) come(2) addBank(5000,3000) addBank(5000,3000)"
        + " grant(0,0,1) grant(0,1,1) grant(1,0,1) grant(1,1,1)";
    private static final String ACTION = "This is an action";
    private static final String OUT_OF_RANGE = "INVALID_ARGUMENT if an argument is out of range";

    private ActionSentences() {
    }

    static void tell(Sentences s) {
        newObject(s);
        come(s);
        setSpades(s);
        addBank(s);
        setAllowance(s);
        grant(s);
        cut(s);
        turn(s);
        join(s);
        joinRefused(s);
        cart(s);
        cartRefused(s);
        repair(s);
        day(s);
        endYear(s);
    }

    private static void newObject(Sentences s) {
        s.in("Promise 1");
        s.says("`PeatShares()`: Creates a parish without households and banks, with an empty text");
        s.due(
            "count(0)=0 count(1)=0 count(2)=0 count(3)=0 count(4)=0 count(5)=0 count(6)=0 count(7)=0 count(8)=0 count(9)=0",
            "household(0,0)=-1 bank(0,0)=-1 stack(0,0)=-1 right(0,0,0)=-1 undo()=-2 restore(0)=-2 restore(1)=-2 clearText()=0",
            "run()=0 count(1)=0 count(2)=0",
            "endYear()=0",
            "day(9,9)=0");
        PeatShares one = new PeatShares();
        PeatShares other = new PeatShares();
        Calls.play(one, FULL);
        for (int what = 0; what <= 9; what++) {
            s.equal("count(" + what + ") of another object", other.count(what), 0);
        }
    }

    private static void come(Sentences s) {
        s.in("Promise 2");
        s.says("`int come(int spades)`: Adds a household");
        s.due(
            "come(3) count(1)=1 household(0,0)=3 household(0,1)=0 household(0,2)=0 household(0,3)=0 household(0,4)=0"
                + " household(0,5)=0 come(4) count(1)=2 household(0,0)=3 household(1,0)=4");
        s.says(ACTION);
        s.action(SOME, "come(8)");
        s.action("", "come(8)");
        s.says("- `spades`: 1 to 9");
        s.range("", "come(#)", 1, 9);
        s.range("come(1)*5", "come(#)", 1, 9);
        s.says("Returns its number");
        s.due("come(9)=0 come(9)=1 come(9)=2 come(9)=3 come(9)=4 come(9)=5", "come(1)=0 undo() come(1)=0 come(2)=1");
        s.says("INVALID_ARGUMENT if spades is out of range");
        s.refused("", "come(0)=-1", "come(10)=-1");
        s.refused(FULL, "come(0)=-1", "come(10)=-1");
        s.says("CAPACITY_EXCEEDED if there are 6");
        s.due("come(1)*5 come(9)=5 come(9)=-3");
        s.refused(FULL, "come(1)=-3", "come(9)=-3");
    }

    private static void setSpades(Sentences s) {
        s.in("Promise 3");
        s.says("`int setSpades(int household, int spades)`: Sets the spades of a household");
        s.due("come(3) come(4) come(5) setSpades(1,9)=4 household(0,0)=3 household(1,0)=9 household(2,0)=5");
        s.says(ACTION);
        s.action(SOME, "setSpades(1,8)");
        s.action(SOME, "setSpades(1,5)");
        s.says("- `household`: a household");
        s.range(SOME, "setSpades(#,4)", 0, 1);
        s.range(FULL, "setSpades(#,4)", 0, 5);
        s.refused("", "setSpades(0,4)=-1", "setSpades(-1,4)=-1");
        s.says("- `spades`: 1 to 9");
        s.range(SOME, "setSpades(0,#)", 1, 9);
        s.says("Returns the previous number of spades");
        s.due("come(3) setSpades(0,9)=3 setSpades(0,1)=9 setSpades(0,1)=1 setSpades(0,2)=1");
        s.says(OUT_OF_RANGE);
        s.refused(SOME, "setSpades(2,0)=-1", "setSpades(-1,10)=-1", "setSpades(0,0)=-1", "setSpades(2,1)=-1");
    }

    private static void addBank(Sentences s) {
        s.in("Promise 4");
        s.says("`int addBank(int allowance, int strength)`: Adds a bank");
        s.due(
            "addBank(7,200) count(2)=1 bank(0,0)=7 bank(0,1)=200 bank(0,2)=0 bank(0,3)=200 bank(0,4)=0 bank(0,5)=0 bank(0,6)=0"
                + " bank(0,7)=0 bank(0,8)=0 addBank(8,300) count(2)=2 bank(0,0)=7 bank(1,0)=8 bank(1,1)=300",
            "come(1) addBank(9,100) right(0,0,0)=0 right(0,0,1)=0 right(0,0,2)=0",
            "day(0,2) addBank(9,100) bank(0,3)=20");
        s.says(ACTION);
        s.action(SOME, "addBank(9,999)");
        s.action("", "addBank(9,999)");
        s.says("- `allowance`: 0 to 5000");
        s.range(SOME, "addBank(#,100)", 0, 5000);
        s.says("- `strength`: 100 to 3000");
        s.range(SOME, "addBank(9,#)", 100, 3000);
        s.says("Returns its number");
        s.due("addBank(0,100)=0 addBank(0,100)=1 addBank(0,100)=2 addBank(0,100)=3");
        s.says(OUT_OF_RANGE);
        s.refused(SOME, "addBank(-1,99)=-1", "addBank(5001,3001)=-1");
        s.refused(FULL, "addBank(-1,100)=-1", "addBank(5001,100)=-1", "addBank(9,99)=-1", "addBank(9,3001)=-1");
        s.says("CAPACITY_EXCEEDED if there are 4");
        s.due("addBank(0,100)*3 addBank(0,100)=3 addBank(0,100)=-3");
        s.refused(FULL, "addBank(0,100)=-3", "addBank(5000,3000)=-3");
    }

    private static void setAllowance(Sentences s) {
        s.in("Promise 5");
        s.says("`int setAllowance(int bank, int allowance)`: Sets the allowance of a bank");
        s.due(
            "addBank(7,200) addBank(8,200) addBank(9,200) setAllowance(1,500) bank(0,0)=7 bank(1,0)=500 bank(2,0)=9"
                + " bank(1,1)=200");
        s.says(ACTION);
        s.action(SOME, "setAllowance(1,8)");
        s.action(SOME, "setAllowance(1,90)");
        s.says("- `bank`: a bank");
        s.range(SOME, "setAllowance(#,4)", 0, 1);
        s.range(FULL, "setAllowance(#,4)", 0, 3);
        s.refused("", "setAllowance(0,4)=-1", "setAllowance(-1,4)=-1");
        s.says("- `allowance`: 0 to 5000");
        s.range(SOME, "setAllowance(0,#)", 0, 5000);
        s.says("Returns the previous allowance");
        s.due("addBank(7,200) setAllowance(0,5000)=7 setAllowance(0,0)=5000 setAllowance(0,0)=0 setAllowance(0,1)=0");
        s.says(OUT_OF_RANGE);
        s.refused(SOME, "setAllowance(2,-1)=-1", "setAllowance(-1,5001)=-1", "setAllowance(0,5001)=-1", "setAllowance(2,0)=-1");
    }

    private static void grant(Sentences s) {
        s.in("Promise 6");
        s.says("`int grant(int household, int bank, int is)`: Gives a household the right to a bank, or takes it");
        s.due(
            "come(1)*3 addBank(9,100)*2 grant(1,0,1) bank(0,4)=2 bank(1,4)=0 grant(2,1,1) bank(0,4)=2 bank(1,4)=4 grant(1,1,1)"
                + " bank(1,4)=6 grant(2,1,0) bank(1,4)=2 household(1,3)=2 household(2,3)=0 grant(1,0,0) bank(0,4)=0"
                + " bank(1,4)=2");
        s.says(ACTION);
        s.action(SOME, "grant(0,1,1)");
        s.action(SOME, "grant(1,1,0)");
        s.action(SOME, "grant(0,1,0)");
        s.says("- `household`: a household");
        s.range(SOME, "grant(#,1,1)", 0, 1);
        s.range(FULL, "grant(#,1,0)", 0, 5);
        s.refused("addBank(9,100)", "grant(0,0,1)=-1", "grant(0,0,0)=-1");
        s.says("- `bank`: a bank");
        s.range(SOME, "grant(0,#,1)", 0, 1);
        s.range(FULL, "grant(0,#,0)", 0, 3);
        s.refused("come(1)", "grant(0,0,1)=-1", "grant(0,0,0)=-1");
        s.says("- `is`: 1 if it has the right then, 0 if not");
        s.range(SOME, "grant(0,1,#)", 0, 1);
        s.due(
            SOME + " grant(0,1,1) right(0,1,0)=26 grant(0,1,1) right(0,1,0)=26 grant(0,1,0) right(0,1,0)=0 grant(0,1,0)"
                + " right(0,1,0)=0");
        s.says("Returns the number of households that have the right to this bank then");
        s.due(
            "come(1)*6 addBank(9,100)*2 grant(5,0,1)=1 grant(5,0,1)=1 grant(0,0,1)=2 grant(3,1,1)=1 grant(3,0,0)=2"
                + " grant(5,0,0)=1 grant(0,0,0)=0 grant(0,0,0)=0",
            FULL + " grant(0,0,1)=6 grant(0,0,0)=5");
        s.says(OUT_OF_RANGE);
        s.refused(SOME, "grant(2,2,2)=-1", "grant(-1,-1,-1)=-1", "grant(0,0,2)=-1", "grant(0,2,1)=-1", "grant(2,0,1)=-1");
    }

    private static void cut(Sentences s) {
        s.in("Promise 7");
        s.says(
            "`int cut(int household, int bank, int turfs)`: Cuts turf, which becomes a new stack of the household at this bank");
        s.due(
            TWO + " cut(1,0,70) count(3)=1 stack(0,0)=1 stack(0,1)=0 stack(0,2)=70 stack(0,3)=100000 stack(0,4)=0"
                + " right(1,0,1)=70 right(0,0,1)=0 right(1,1,1)=0 bank(0,5)=70 bank(1,5)=0 bank(0,6)=70 household(1,4)=1"
                + " household(1,5)=70 cut(1,0,5) right(1,0,1)=75 bank(0,5)=75");
        s.says(ACTION);
        s.action(SOME, "cut(1,0,12)");
        s.says("- `household`: a household");
        s.range(TWO, "cut(#,1,9)", 0, 1);
        s.range(FULL + " cart(0,1)", "cut(#,1,9)", 0, 5);
        s.says("- `bank`: a bank");
        s.range(TWO, "cut(1,#,9)", 0, 1);
        s.range(FULL + " cart(0,1)", "cut(1,#,9)", 0, 3);
        s.says("- `turfs`: 1 to 1000");
        s.range(TWO, "cut(1,1,#)", 1, 1000);
        s.says("Returns the number of the stack");
        s.due(
            TWO + " cut(1,0,9)=0 cut(0,1,9)=1 cut(0,0,9)=2 cart(1,9) cut(1,1,9)=2 endYear() cut(1,1,9)=0",
            ONE + " cut(0,0,1)*11 cut(0,0,1)=11");
        s.says(OUT_OF_RANGE);
        s.refused("", "cut(0,0,1)=-1", "cut(0,0,0)=-1");
        s.refused(SOME, "cut(0,0,0)=-1", "cut(0,0,1001)=-1", "cut(2,0,1)=-1", "cut(-1,0,1)=-1", "cut(0,2,1)=-1",
            "cut(0,-1,1)=-1", "cut(0,1,1001)=-1", "cut(0,1,0)=-1");
        s.refused(FULL, "cut(0,0,0)=-1", "cut(0,0,1001)=-1", "cut(6,0,1)=-1", "cut(0,4,1)=-1");
        s.says("ILLEGAL_STATE if the household would have cut more than its share there this year");
        s.due(
            "come(1) come(2) addBank(100,100) grant(0,0,1) grant(1,0,1) right(0,0,0)=34 right(1,0,0)=66 cut(0,0,35)=-2"
                + " cut(0,0,34)=0 cut(0,0,1)=-2 cut(1,0,67)=-2 cut(1,0,66)=1 cut(1,0,1)=-2 endYear() cut(0,0,34)=0"
                + " cut(0,0,1)=-2",
            "come(1) addBank(1000,100) grant(0,0,1) cut(0,0,999) cut(0,0,2)=-2 cut(0,0,1)=1");
        s.refused("come(1) come(2) addBank(100,100) grant(0,0,1) grant(1,0,1) cut(0,0,30)", "cut(0,0,5)=-2", "cut(0,0,1000)=-2");
        s.refused("come(1) addBank(100,100)", "cut(0,0,1)=-2");
        s.refused("come(1) addBank(0,100) grant(0,0,1)", "cut(0,0,1)=-2");
        s.refused(FULL, "cut(0,0,100)=-2", "cut(0,0,1000)=-2");
        s.says("CAPACITY_EXCEEDED if there are 12 stacks");
        s.due(ONE + " cut(0,0,1)*11 cut(0,0,1)=11 cut(0,0,1)=-3");
        s.refused(FULL, "cut(0,0,99)=-3", "cut(0,0,1)=-3");
    }

    private static void turn(Sentences s) {
        s.in("Promise 8");
        s.says("`int turn(int stack)`: Turns a stack");
        s.due(ONE + " cut(0,0,1)*3 turn(1) stack(0,4)=0 stack(1,4)=1 stack(2,4)=0 turn(2) turn(1) stack(1,4)=2 stack(2,4)=1");
        s.says(ACTION);
        s.action(SOME, "turn(1)");
        s.says("- `stack`: a stack");
        s.range(SOME, "turn(#)", 0, 2);
        s.range(FULL + " undo()", "turn(#)", 0, 11);
        s.says("Returns how often it has been turned then");
        s.due(ONE + " cut(0,0,1) turn(0)=1 turn(0)=2 turn(0)=3 turn(0)=-3");
        s.says("INVALID_ARGUMENT if there is no such stack");
        s.refused(ONE, "turn(0)=-1", "turn(-1)=-1");
        s.refused(SOME, "turn(3)=-1", "turn(-1)=-1");
        s.refused(FULL, "turn(12)=-1");
        s.says("CAPACITY_EXCEEDED if it has been turned 3 times");
        s.refused(TURNED, "turn(0)=-3");
        s.refused(FULL, "turn(0)=-3");
    }

    private static void join(Sentences s) {
        String three = TWO + " cut(0,0,30) cut(1,0,5) cut(0,0,20) turn(0)*2 turn(2)";
        s.in("Promise 9");
        s.says(
            "`int join(int one, int other)`: Puts a stack onto another one of the same household at the same bank, which has"
                + " the turfs of both then; its wetness becomes the mean of the wetness of all its turfs, rounded up, and it"
                + " counts as turned as often as the one that has been turned less");
        s.due(
            three + " join(0,2)=50 stack(1,2)=50 stack(1,3)=100000 stack(1,4)=1 stack(1,0)=0 stack(1,1)=0 bank(0,6)=55"
                + " bank(0,5)=55",
            three + " join(2,0)=50 stack(0,2)=50 stack(0,4)=1 stack(1,2)=5 stack(1,0)=1",
            three + " turn(0) turn(2)*2 join(2,0)=50 stack(0,4)=3",
            three + " cut(0,0,1) join(0,3)=31 stack(2,2)=31 stack(2,4)=0",
            three + " cut(0,0,1) join(3,0)=31 stack(0,4)=0");
        // A stack of 85937 and one of 100000: the mean of 1 and 1 turfs is 92968.5, of 2 and 1 90624.67, of 1 and 2 95312.33.
        s.due(
            ONE + " cut(0,0,1) day(9,0) cut(0,0,1) join(0,1)=2 stack(0,3)=92969",
            ONE + " cut(0,0,1) day(9,0) cut(0,0,1) join(1,0)=2 stack(0,3)=92969",
            ONE + " cut(0,0,2) day(9,0) cut(0,0,1) join(1,0)=3 stack(0,3)=90625",
            ONE + " cut(0,0,1) day(9,0) cut(0,0,2) join(1,0)=3 stack(0,3)=95313",
            ONE + " cut(0,0,1) cut(0,0,2) day(9,0) join(1,0)=3 stack(0,3)=85937");
        // 4999 wet turfs and one that is less wet: just below 100000, and rounded up to it.
        s.due(
            ONE + " cut(0,0,1) day(1,0) cut(0,0,1000)*4 cut(0,0,999) join(1,2) join(1,2) join(1,2) join(1,2)=4999"
                + " stack(1,3)=100000 join(0,1)=5000 stack(0,3)=100000");
        s.says("The first one is gone");
        s.due(
            three + " join(0,2) count(3)=2 stack(0,0)=1 stack(1,2)=50 stack(2,2)=-1 household(0,4)=1",
            three + " join(2,0) count(3)=2 stack(0,2)=50 stack(1,0)=1 stack(2,2)=-1",
            ONE + " cut(0,0,1)*12 join(11,0) count(3)=11 cut(0,0,1)=11");
        s.says(ACTION);
        s.action(three + " undo()*2", "join(0,2)");
        s.action(three + " undo()*2", "join(2,0)");
    }

    private static void joinRefused(Sentences s) {
        String four = TWO + " cut(0,0,1) cut(1,0,2) cut(0,1,3) cut(0,0,4)";
        s.in("Promise 9");
        s.says("- `one`: a stack");
        s.range(TWO + " cut(0,0,1) cut(0,0,2) cut(0,0,3)", "join(#,1)", 0, 2);
        s.says("- `other`: another stack");
        s.range(TWO + " cut(0,0,1) cut(0,0,2) cut(0,0,3)", "join(1,#)", 0, 2);
        s.refused(four, "join(0,0)=-1", "join(3,3)=-1");
        s.says("Returns the turfs of the other one then");
        s.due(
            four + " join(0,3)=5 stack(2,2)=5",
            four + " join(3,0)=5 stack(0,2)=5",
            ONE + " cut(0,0,1000)*2 join(0,1)=2000 cut(0,0,1000) join(1,0)=3000");
        s.says("INVALID_ARGUMENT if there are no such stacks, or both are the same");
        s.refused(four, "join(4,0)=-1", "join(0,4)=-1", "join(-1,0)=-1", "join(0,-1)=-1", "join(4,4)=-1", "join(-1,-1)=-1",
            "join(1,1)=-1");
        s.refused(ONE, "join(0,0)=-1", "join(0,1)=-1");
        s.says("ILLEGAL_STATE if they belong to different households or lie at different banks");
        s.refused(four, "join(0,1)=-2", "join(1,0)=-2", "join(0,2)=-2", "join(2,0)=-2", "join(1,2)=-2", "join(2,1)=-2");
    }

    private static void cart(Sentences s) {
        s.in("Promise 10");
        s.says(
            "`int cart(int stack, int turfs)`: Carts turfs of a stack to the shed of its household: they are dry ones if the"
                + " stack is dry, otherwise damp ones");
        s.due(
            TWO + " cut(1,1,100) turn(0)*3 cart(0,10) household(1,1)=0 household(1,2)=10 day(9,0)*2 cart(0,20)"
                + " household(1,1)=20 household(1,2)=10 household(0,1)=0 household(0,2)=0 stack(0,2)=70 bank(1,7)=30"
                + " bank(0,7)=0 bank(1,6)=70 bank(0,2)=0 bank(1,2)=2 cart(0,1) household(1,1)=21",
            TURNED + " day(4,0) day(8,1) day(8,7) stack(0,3)=30000 cart(0,9) household(0,1)=9 household(0,2)=0",
            TURNED + " day(5,4) day(9,7) day(6,2) stack(0,3)=30001 cart(0,9) household(0,1)=0 household(0,2)=9");
        s.says("A stack without turfs is gone");
        s.due(
            ONE + " cut(0,0,5) cut(0,0,6) cart(0,4) count(3)=2 stack(0,2)=1 cart(0,1) count(3)=1 stack(0,2)=6 cart(0,6)"
                + " count(3)=0 stack(0,2)=-1 household(0,2)=11");
        s.says(ACTION);
        s.action(SOME, "cart(0,5)");
        s.action(SOME, "cart(1,33)");
        s.says("- `stack`: a stack");
        s.range(SOME, "cart(#,1)", 0, 2);
        s.range(FULL, "cart(#,1)", 0, 11);
        s.says("- `turfs`: 1 to 1000");
        s.range(ONE + " cut(0,0,1000)*2 join(0,1)", "cart(0,#)", 1, 1000);
        s.due(ONE + " cut(0,0,1000)*2 join(0,1) cart(0,1001)=-1 cart(0,1000)=2000 cart(0,1000)=2000");
        s.says("Returns the load");
        s.due(
            TURNED + " cart(0,1)=2 cart(0,25)=50 day(9,0) stack(0,5)=1437 cart(0,1)=2 cart(0,10)=15 cart(0,100)=144"
                + " cart(0,863)=1241 count(3)=0");
    }

    private static void cartRefused(Sentences s) {
        s.in("Promise 10");
        s.says("INVALID_ARGUMENT if there is no such stack or turfs is out of range");
        s.refused(ONE, "cart(0,1)=-1", "cart(0,0)=-1");
        s.refused(SOME, "cart(3,1)=-1", "cart(-1,1)=-1", "cart(0,0)=-1", "cart(0,1001)=-1", "cart(3,1001)=-1");
        s.refused("come(1) addBank(9,100) grant(0,0,1) cut(0,0,9) day(0,9)", "cart(0,0)=-1", "cart(0,1001)=-1", "cart(1,1)=-1");
        s.says("ILLEGAL_STATE if the stack has fewer turfs, or the load is more than the road of its bank bears today");
        s.due(
            ONE + " cut(0,0,10) cart(0,11)=-2 cart(0,10)=20",
            "come(1) addBank(200,101) grant(0,0,1) cut(0,0,200) cart(0,51)=-2 cart(0,50)=100 bank(0,3)=99 cart(0,50)=-2"
                + " cart(0,49)=98 bank(0,3)=97",
            "come(1) addBank(200,100) grant(0,0,1) cut(0,0,200) cart(0,51)=-2 cart(0,50)=100 bank(0,3)=98 cart(0,50)=-2"
                + " cart(0,49)=98",
            "come(1) addBank(9,100) addBank(200,3000) grant(0,0,1) grant(0,1,1) cut(0,0,9) cut(0,1,200) cart(1,200)=400",
            "come(1) addBank(9,122) grant(0,0,1) cut(0,0,9) day(0,3) cart(0,2)=-2 cart(0,1)=2 cart(0,1)=-2 endYear()=8",
            "come(1) addBank(99,100) grant(0,0,1) cut(0,0,99) day(0,2) cart(0,11)=-2 cart(0,10)=20 day(0,0) cart(0,50)=-2"
                + " cart(0,49)=98");
        s.refused(SOME, "cart(0,41)=-2", "cart(1,34)=-2", "cart(1,1000)=-2");
        s.refused("come(1) addBank(200,100) grant(0,0,1) cut(0,0,200)", "cart(0,51)=-2", "cart(0,200)=-2", "cart(0,201)=-2");
        s.refused("come(1) addBank(200,100) grant(0,0,1) cut(0,0,200) day(9,9)", "cart(0,1)=-2");
    }

    private static void repair(Sentences s) {
        s.in("Promise 11");
        s.says("`int repair(int bank)`: Repairs the road of a bank, which has no wear then");
        s.due(
            TWO + " cut(1,0,100) cut(1,1,100) cart(0,100)=200 cart(0,50)=100 bank(0,2)=4 bank(1,2)=2 repair(0) bank(0,2)=0"
                + " bank(0,3)=3000 bank(0,1)=3000 bank(1,2)=2 bank(1,3)=2998 bank(0,7)=100");
        s.says(ACTION);
        s.action(SOME, "repair(0)");
        s.action(SOME, "repair(1)");
        s.says("- `bank`: a bank");
        s.range(SOME, "repair(#)", 0, 1);
        s.range(FULL, "repair(#)", 0, 3);
        s.says("Returns the wear that it had");
        s.due(
            TURNED + " repair(0)=0 cart(0,26)=52 repair(0)=2 repair(0)=0 cart(0,1)=2 repair(0)=1 cart(0,973)=1946 repair(0)=39");
        s.says("INVALID_ARGUMENT if there is no such bank");
        s.refused("come(1)", "repair(0)=-1", "repair(-1)=-1");
        s.refused(SOME, "repair(2)=-1", "repair(-1)=-1");
        s.refused(FULL, "repair(4)=-1");
    }

    private static void day(Sentences s) {
        s.in("Promise 12");
        s.says("`int day(int wind, int rain)`: Lets a day pass");
        s.due(
            ONE + " cut(0,0,9) day(8,2) count(6)=1 count(5)=2 stack(0,3)=90500 count(0)=0 day(0,0) count(6)=2 count(5)=0"
                + " stack(0,3)=90500",
            FULL + " count(6)=1 day(9,9) count(6)=2 stack(0,3)=55855 stack(11,3)=96697 count(3)=12");
        s.says(ACTION);
        s.action(SOME, "day(9,9)");
        s.action("", "day(0,0)");
        s.says("- `wind`: 0 to 9");
        s.range(SOME, "day(#,0)", 0, 9);
        s.says("- `rain`: 0 to 9");
        s.range(SOME, "day(0,#)", 0, 9);
        s.says("Returns the number of stacks that are dry then");
        s.due(
            "day(9,0)=0",
            ONE + " cut(0,0,9)*3 turn(0)*3 turn(2)*3 day(9,0)=0 day(9,0)=2 day(0,7)=2 day(0,1)=0",
            TURNED + " day(4,0)=0 day(8,1)=0 day(8,7)=1 day(0,1)=0",
            TURNED + " day(5,4)=0 day(9,7)=0 day(6,2)=0 day(1,0)=1");
        s.says(OUT_OF_RANGE);
        s.refused(SOME, "day(-1,-1)=-1", "day(10,10)=-1", "day(10,0)=-1", "day(0,10)=-1", "day(-1,0)=-1", "day(0,-1)=-1");
    }

    private static void endYear(Sentences s) {
        s.in("Promise 13");
        s.says("`int endYear()`: Ends the year");
        s.due(
            TWO + " cut(0,0,9) cut(1,1,8) day(0,3) endYear() count(0)=1 count(3)=0 count(5)=0 count(6)=1 bank(0,8)=9"
                + " bank(1,8)=8 right(0,0,1)=0 right(1,1,1)=0",
            FULL + " endYear()=78 count(3)=0 bank(0,8)=15 bank(1,8)=18 bank(2,8)=21 bank(3,8)=24");
        s.says(ACTION);
        s.action(SOME, "endYear()");
        s.action("", "endYear()");
        s.says("Returns the turfs that are left on all banks by this");
        s.due(
            "endYear()=0",
            TWO + " cut(0,0,9) cut(1,1,8) cut(0,0,7) cart(2,3) endYear()=21 endYear()=0 cut(0,0,5) endYear()=5 bank(0,8)=18");
        s.says("ILLEGAL_STATE if it is year 999");
        // Year 999 is more than 512 calls away: what is promised can only be told for the years before.
        s.due("endYear()=0*510 count(0)=510 endYear()=0");
        s.equal("the years that can be ended in a row", yearsInARow(), 999);
    }

    /** More calls than are promised; the program keeps its word all the same. */
    private static int yearsInARow() {
        PeatShares x = new PeatShares();
        int years = 0;
        while (years < 2000 && x.endYear() == 0) {
            years++;
        }
        return x.endYear() == -2 && x.count(0) == 999 ? years : -1;
    }
}
