/** The sentences of promises 20 to 29: looking and forecasts. */
final class LookSentences {
    private static final String SOME = Sentences.SOME;
    private static final String FULL = Sentences.FULL;
    private static final String ONE = TermsSentences.ONE;
    private static final String TURNED = TermsSentences.TURNED;
    /** A stack of so many turfs on a road of 100 follows. */
    private static final String WEAK = "come(1) addBank(5000,100) grant(0,0,1)";

    private LookSentences() {
    }

    static void tell(Sentences s) {
        count(s);
        household(s);
        bank(s);
        right(s);
        stack(s);
        dryIn(s);
        cartLoad(s);
        carts(s);
        worth(s);
        nextToCut(s);
    }

    private static void count(Sentences s) {
        s.in("Promise 20");
        s.says("`int count(int what)`: Returns a number");
        s.still(SOME, "count(0)", "count(4)", "count(7)", "count(8)", "count(9)");
        s.says(
            "- `what`: 0 the year, 1 the number of households, 2 of banks, 3 of stacks, 4 of dry stacks, 5 the rain of the day"
                + " before, 6 the days that have passed so far, 7 the number of snapshots, 8 of states in the history, 9 the"
                + " length of the text");
        s.range("", "count(#)", 0, 9);
        s.range(FULL, "count(#)", 0, 9);
        s.says("Returns the number");
        s.due(
            SOME + " count(0)=1 count(1)=2 count(2)=2 count(3)=3 count(4)=0 count(5)=2 count(6)=2 count(7)=1 count(8)=4"
                + " count(9)=9",
            FULL + " count(0)=0 count(1)=6 count(2)=4 count(3)=12 count(4)=0 count(5)=1 count(6)=1 count(7)=2 count(8)=5"
                + " count(9)=140",
            ONE + " cut(0,0,1)*3 turn(1)*3 day(9,0)*2 count(4)=1 turn(0)*3 turn(2)*3 day(9,0)=1 count(4)=1 day(9,0)=3"
                + " count(4)=3 day(0,0) count(4)=3 count(6)=5");
        s.says("INVALID_ARGUMENT if what is out of range");
        s.refused(SOME, "count(-1)=-1", "count(10)=-1");
    }

    private static void household(Sentences s) {
        s.in("Promise 21");
        s.says("`int household(int household, int what)`: Returns a property of a household");
        s.still(SOME, "household(0,0)", "household(1,5)");
        s.says("- `household`: a household");
        s.range(SOME, "household(#,0)", 0, 1);
        s.range(FULL, "household(#,5)", 0, 5);
        s.says(
            "- `what`: 0 its spades, 1 its dry turfs in the shed, 2 its damp turfs there, 3 the number of banks to which it"
                + " has the right, 4 the number of its stacks, 5 the turfs in these");
        s.range(SOME, "household(1,#)", 0, 5);
        s.says("Returns the property");
        s.due(
            SOME + " household(0,0)=2 household(0,1)=0 household(0,2)=40 household(0,3)=1 household(0,4)=1 household(0,5)=33"
                + " household(1,0)=5 household(1,1)=0 household(1,2)=9 household(1,3)=2 household(1,4)=2 household(1,5)=81",
            FULL + " household(5,0)=1 household(5,1)=0 household(5,2)=0 household(5,3)=4 household(5,4)=2 household(5,5)=18",
            TURNED + " cart(0,7) day(9,0)*2 cart(0,5) household(0,1)=5 household(0,2)=7 household(0,5)=988");
        s.says("INVALID_ARGUMENT if there is no such household or what is out of range");
        s.refused("addBank(9,100)", "household(0,0)=-1", "household(0,6)=-1");
        s.refused(SOME, "household(2,0)=-1", "household(-1,0)=-1", "household(0,-1)=-1", "household(0,6)=-1",
            "household(2,6)=-1");
    }

    private static void bank(Sentences s) {
        s.in("Promise 22");
        s.says("`int bank(int bank, int what)`: Returns a property of a bank");
        s.still(SOME, "bank(0,3)", "bank(1,8)");
        s.says("- `bank`: a bank");
        s.range(SOME, "bank(#,0)", 0, 1);
        s.range(FULL, "bank(#,8)", 0, 3);
        s.says(
            "- `what`: 0 its allowance, 1 the strength of its road, 2 the wear of its road, 3 what its road bears today, 4 the"
                + " households that have the right, as the sum of 1 for household 0, 2 for 1, 4 for 2 and so on, 5 the turfs"
                + " that were cut there in all years, 6 in stacks there now, 7 carted from there in all years, 8 left there in"
                + " all years");
        s.range(SOME, "bank(1,#)", 0, 8);
        s.due(
            "come(1)*6 addBank(9,100) bank(0,4)=0 grant(0,0,1) bank(0,4)=1 grant(5,0,1) bank(0,4)=33 grant(2,0,1) bank(0,4)=37"
                + " grant(0,0,0) bank(0,4)=36 grant(1,0,1) grant(3,0,1) grant(4,0,1) bank(0,4)=62 grant(0,0,1) bank(0,4)=63");
        s.says("Returns the property");
        // The first year's 40 turfs weighed 1905 g each, 77 kg; the second one's 9 weighed 2000 g, 18 kg.
        s.due(
            SOME + " bank(0,0)=700 bank(0,1)=500 bank(0,2)=3 bank(0,3)=417 bank(0,4)=3 bank(0,5)=243 bank(0,6)=74 bank(0,7)=49"
                + " bank(0,8)=120 bank(1,0)=90 bank(1,1)=3000 bank(1,2)=0 bank(1,3)=2920 bank(1,4)=2 bank(1,5)=70 bank(1,6)=40"
                + " bank(1,7)=0 bank(1,8)=30",
            FULL + " bank(3,0)=600 bank(3,1)=1000 bank(3,2)=0 bank(3,3)=960 bank(3,4)=63 bank(3,5)=24 bank(3,6)=24 bank(3,7)=0"
                + " bank(3,8)=0");
        s.says("INVALID_ARGUMENT if there is no such bank or what is out of range");
        s.refused("come(1)", "bank(0,0)=-1", "bank(0,9)=-1");
        s.refused(SOME, "bank(2,0)=-1", "bank(-1,0)=-1", "bank(0,-1)=-1", "bank(0,9)=-1", "bank(2,9)=-1");
    }

    private static void right(Sentences s) {
        s.in("Promise 23");
        s.says("`int right(int household, int bank, int what)`: Returns a part of a right");
        s.still(SOME, "right(0,0,0)", "right(1,1,2)");
        s.says("- `household`: a household");
        s.range(SOME, "right(#,0,0)", 0, 1);
        s.range(FULL, "right(#,3,2)", 0, 5);
        s.says("- `bank`: a bank");
        s.range(SOME, "right(0,#,0)", 0, 1);
        s.range(FULL, "right(5,#,2)", 0, 3);
        s.says(
            "- `what`: 0 the share of the household, 1 what it has cut there this year, 2 what it may still cut there this"
                + " year (at least 0)");
        s.range(SOME, "right(1,1,#)", 0, 2);
        s.due(
            ONE + " right(0,0,2)=5000 cut(0,0,999) right(0,0,2)=4001 setAllowance(0,1000) right(0,0,2)=1 setAllowance(0,999)"
                + " right(0,0,2)=0 setAllowance(0,998) right(0,0,2)=0 setAllowance(0,0) right(0,0,2)=0 right(0,0,1)=999");
        s.says("Returns the part");
        s.due(
            SOME + " right(0,0,0)=200 right(0,0,1)=33 right(0,0,2)=167 right(1,0,0)=500 right(1,0,1)=50 right(1,0,2)=450"
                + " right(0,1,0)=0 right(0,1,1)=0 right(0,1,2)=0 right(1,1,0)=90 right(1,1,1)=40 right(1,1,2)=50");
        s.says("INVALID_ARGUMENT if an argument is out of range");
        s.refused("come(1)", "right(0,0,0)=-1");
        s.refused("addBank(9,100)", "right(0,0,0)=-1");
        s.refused(SOME, "right(2,0,0)=-1", "right(-1,0,0)=-1", "right(0,2,0)=-1", "right(0,-1,0)=-1", "right(0,0,3)=-1",
            "right(0,0,-1)=-1", "right(2,2,3)=-1");
    }

    private static void stack(Sentences s) {
        s.in("Promise 24");
        s.says("`int stack(int stack, int what)`: Returns a property of a stack");
        s.still(SOME, "stack(0,3)", "stack(2,6)");
        s.says("- `stack`: a stack");
        s.range(SOME, "stack(#,2)", 0, 2);
        s.range(FULL, "stack(#,0)", 0, 11);
        s.says(
            "- `what`: 0 its household, 1 its bank, 2 its turfs, 3 its wetness, 4 how often it has been turned, 5 what one of"
                + " its turfs weighs, in grams, 6 1 if it is dry and 0 if not");
        s.range(SOME, "stack(0,#)", 0, 6);
        s.says("Returns the property");
        // Turned twice: 100000 * 37 / 64 = 57812.5, and 3000; not turned: 85937 and 3000.
        s.due(
            SOME + " stack(0,0)=1 stack(0,1)=1 stack(0,2)=40 stack(0,3)=60812 stack(0,4)=2 stack(0,5)=1608 stack(0,6)=0"
                + " stack(1,0)=0 stack(1,1)=0 stack(1,2)=33 stack(1,3)=88937 stack(1,4)=0 stack(1,5)=1889 stack(2,0)=1"
                + " stack(2,1)=0 stack(2,2)=41",
            TURNED + " day(9,0)*2 stack(0,3)=19140 stack(0,4)=3 stack(0,5)=1191 stack(0,6)=1");
        s.says("INVALID_ARGUMENT if there is no such stack or what is out of range");
        s.refused(ONE, "stack(0,0)=-1", "stack(0,7)=-1");
        s.refused(SOME, "stack(3,0)=-1", "stack(-1,0)=-1", "stack(0,-1)=-1", "stack(0,7)=-1", "stack(3,7)=-1");
        s.refused(FULL, "stack(12,0)=-1");
    }

    private static void dryIn(Sentences s) {
        String wet = ONE + " cut(0,0,1)";
        s.in("Promise 25");
        s.says(
            "`int dryIn(int stack, int wind, int rain)`: Tells in how many days a stack is dry, if each day has this wind and"
                + " this rain and it is not turned");
        s.due(
            wet + " dryIn(0,9,0)=8 day(9,0) dryIn(0,9,0)=7 day(9,0)=0*6 dryIn(0,9,0)=1 day(9,0)=1",
            wet + " dryIn(0,9,2)=15 day(9,2)=0*14 day(9,2)=1",
            wet + " dryIn(0,1,0)=77 day(1,0)=0*76 day(1,0)=1",
            wet + " turn(0) dryIn(0,9,0)=4 turn(0) dryIn(0,9,0)=3 turn(0) dryIn(0,9,0)=2 day(9,0)=0 day(9,0)=1",
            wet + " dryIn(0,4,1)=40 turn(0) dryIn(0,2,1)=40 turn(0)*2 dryIn(0,1,1)=40 day(1,1)=0*39 day(1,1)=1");
        s.still(SOME, "dryIn(0,9,0)", "dryIn(2,9,9)=-9");
        s.says("- `stack`: a stack");
        s.range(SOME, "dryIn(#,9,0)", 0, 2);
        s.range(FULL, "dryIn(#,9,0)", 0, 11);
        s.says("- `wind`: 0 to 9");
        s.range(SOME, "dryIn(0,#,0)", 0, 9);
        s.says("- `rain`: 0 to 9");
        s.range(SOME, "dryIn(0,9,#)", 0, 9);
        s.says("Returns the days, 0 if it is dry now");
        s.due(
            TURNED + " day(4,0) day(8,1) day(8,7) stack(0,3)=30000 dryIn(0,0,9)=0 dryIn(0,0,0)=0 dryIn(0,9,0)=0",
            TURNED + " day(5,4) day(9,7) day(6,2) stack(0,3)=30001 dryIn(0,1,0)=1 dryIn(0,9,9)=1 dryIn(0,9,0)=1");
        s.says("INVALID_ARGUMENT if an argument is out of range");
        s.refused(SOME, "dryIn(3,9,0)=-1", "dryIn(-1,9,0)=-1", "dryIn(0,10,0)=-1", "dryIn(0,-1,0)=-1", "dryIn(0,9,10)=-1",
            "dryIn(0,9,-1)=-1");
        s.refused(TURNED + " day(9,0)*2", "dryIn(0,10,0)=-1", "dryIn(0,0,-1)=-1", "dryIn(1,9,0)=-1");
        s.refused("", "dryIn(0,9,0)=-1");
        s.says("NONE if it is not within 200 days");
        // 16 / 64 of 30000 is just the rain 5: one wind less and the stack never dries. No forecast lies between 77 and 200 days.
        s.due(
            wet + " dryIn(0,0,0)=-9 dryIn(0,9,9)=-9 dryIn(0,9,3)=-9 day(9,3)=0*199 dryIn(0,9,3)=-9",
            wet + " turn(0) dryIn(0,8,5)=37 dryIn(0,7,5)=-9",
            wet + " turn(0)*3 dryIn(0,4,5)=37 dryIn(0,3,5)=-9 day(4,5)=0*36 day(4,5)=1 stack(0,3)=30000 day(4,5)=1"
                + " stack(0,3)=30000");
    }

    private static void cartLoad(Sentences s) {
        s.in("Promise 26");
        s.says("`int cartLoad(int stack)`: Finds the greatest number of turfs of a stack that can be carted at once today");
        // 58 turfs of 1718 g weigh 99644 g, 59 weigh 101362 g; 100 turfs of 1000 g are just what a road of 100 bears.
        s.due(
            WEAK + " cut(0,0,1000) cartLoad(0)=50 cart(0,51)=-2 cart(0,50)=100 cartLoad(0)=49 cart(0,50)=-2 cart(0,49)=98"
                + " day(0,2) cartLoad(0)=8 cart(0,9)=-2 cart(0,8)=16 cartLoad(0)=7 day(0,0) cartLoad(0)=47 repair(0)"
                + " cartLoad(0)=50",
            WEAK + " cut(0,0,200) turn(0) day(9,0) stack(0,5)=1718 cartLoad(0)=58 cart(0,59)=-2 cart(0,58)=100",
            WEAK + " cut(0,0,200) turn(0)*3 day(5,4) day(9,0)*8 stack(0,5)=1000 cartLoad(0)=100 cart(0,101)=-2 cart(0,100)=100",
            WEAK + " cut(0,0,200) turn(0)*3 day(4,0) day(9,0)*8 stack(0,5)=1001 cartLoad(0)=99 cart(0,100)=-2 cart(0,99)=100");
        s.still(SOME, "cartLoad(0)", "cartLoad(2)");
        s.says("- `stack`: a stack");
        s.range(SOME, "cartLoad(#)", 0, 2);
        s.range(FULL, "cartLoad(#)", 0, 11);
        s.says("Returns the number, at most its turfs and at most 1000");
        s.due(
            ONE + " cut(0,0,7) cartLoad(0)=7 cart(0,6) cartLoad(0)=1",
            ONE + " cut(0,0,1000) cartLoad(0)=1000 cut(0,0,1) join(0,1) cartLoad(0)=1000 cut(0,0,1000) join(0,1)"
                + " cartLoad(0)=1000 cart(0,1000)=2000 cartLoad(0)=1000 cart(0,2) cartLoad(0)=999",
            WEAK + " cut(0,0,49) cartLoad(0)=49",
            WEAK + " cut(0,0,50) cartLoad(0)=50",
            WEAK + " cut(0,0,51) cartLoad(0)=50");
        s.says("INVALID_ARGUMENT if there is no such stack");
        s.refused(ONE, "cartLoad(0)=-1", "cartLoad(-1)=-1");
        s.refused(SOME, "cartLoad(3)=-1", "cartLoad(-1)=-1");
        s.says("NONE if not one can be carted");
        String two = "come(1) addBank(9,122) grant(0,0,1) cut(0,0,9) day(0,3) bank(0,3)=2";
        s.due(
            two + " cartLoad(0)=1 cart(0,1) bank(0,3)=1 cartLoad(0)=-9 cart(0,1)=-2 repair(0) cartLoad(0)=1",
            two + " day(0,4) bank(0,3)=0 cartLoad(0)=-9",
            "come(1) addBank(9,121) grant(0,0,1) cut(0,0,9) turn(0)*3 day(5,4) day(9,0)*8 day(0,3) stack(0,5)=1045"
                + " cartLoad(0)=-9");
        s.still(two + " day(0,4)", "cartLoad(0)=-9");
    }

    private static void carts(Sentences s) {
        s.in("Promise 27");
        s.says(
            "`int carts(int stack)`: Tells how many carts are needed to cart a stack today, each as great as it can be, one"
                + " behind the other, the road being worn by each");
        // 50 turfs, then 49 of 98 kg, 48 of 96 kg and so on: each of these carts wears the road by 2.
        s.due(
            WEAK + " cut(0,0,1) carts(0)=1",
            WEAK + " cut(0,0,50) carts(0)=1",
            WEAK + " cut(0,0,51) carts(0)=2",
            WEAK + " cut(0,0,99) carts(0)=2",
            WEAK + " cut(0,0,100) carts(0)=3",
            WEAK + " cut(0,0,147) carts(0)=3",
            WEAK + " cut(0,0,148) carts(0)=4",
            WEAK + " cut(0,0,148) cart(0,50) cart(0,49) cart(0,48) carts(0)=1 cart(0,1) count(3)=0",
            ONE + " cut(0,0,1000)*5 join(0,4) join(0,3) join(0,2) join(0,1)=5000 carts(0)=5 cart(0,1000) carts(0)=4",
            ONE + " cut(0,0,1000) cut(0,0,1) carts(0)=1 join(0,1) carts(0)=2",
            WEAK + " cut(0,0,30) day(0,1) carts(0)=1 day(0,2) carts(0)=4 day(0,0) carts(0)=1");
        s.still(SOME, "carts(0)", "carts(2)");
        s.still(WEAK + " cut(0,0,148)", "carts(0)=4");
        s.says("- `stack`: a stack");
        s.range(SOME, "carts(#)", 0, 2);
        s.range(FULL, "carts(#)", 0, 11);
        s.says("Returns the number of carts");
        // 1575 wet turfs are all that the road bears until it is worn to 1, in 74 carts.
        s.due(WEAK + " cut(0,0,1000) cut(0,0,575) join(1,0) carts(0)=74", SOME + " carts(0)=1 carts(1)=1 carts(2)=1");
        s.says("INVALID_ARGUMENT if there is no such stack");
        s.refused(ONE, "carts(0)=-1", "carts(-1)=-1");
        s.refused(SOME, "carts(3)=-1", "carts(-1)=-1");
        s.says("NONE if it cannot be carted wholly");
        s.due(
            WEAK + " cut(0,0,1000) cut(0,0,576) join(1,0) carts(0)=-9 cartLoad(0)=50",
            WEAK + " cut(0,0,1) day(0,3) carts(0)=-9",
            "come(1) addBank(9,122) grant(0,0,1) cut(0,0,9) day(0,3) carts(0)=-9 cartLoad(0)=1 cart(0,1) carts(0)=-9",
            "come(1) addBank(9,123) grant(0,0,1) cut(0,0,2) day(0,3) bank(0,3)=3 carts(0)=2 cart(0,1) carts(0)=1");
        s.still(WEAK + " cut(0,0,1000) cut(0,0,576) join(1,0)", "carts(0)=-9");
    }

    private static void worth(Sentences s) {
        String dry = TURNED + " come(1) day(9,0)*2";
        s.in("Promise 28");
        s.says("`int worth(int household, int price)`: Tells what all dry turfs of a household in its shed are worth together");
        s.due(
            TURNED + " cart(0,9) worth(0,2000000000)=0 day(9,0)*2 cart(0,3) worth(0,5)=15 cart(0,4) worth(0,5)=35 endYear()"
                + " worth(0,100)=700",
            dry + " cart(0,9) worth(0,1)=9 worth(1,1)=0 worth(1,2000000000)=0");
        s.still(SOME, "worth(0,5)", "worth(1,2000000000)");
        s.says("- `household`: a household");
        s.range(SOME, "worth(#,7)", 0, 1);
        s.range(FULL, "worth(#,7)", 0, 5);
        s.says("- `price`: 0 to 2000000000, for one");
        s.range(SOME, "worth(0,#)", 0, 2000000000);
        s.due(dry + " cart(0,1) worth(0,0)=0 worth(0,2000000000)=2000000000 worth(0,2000000001)=-1 worth(0,-1)=-1");
        s.says("Returns the worth");
        s.due(
            dry + " cart(0,1) worth(0,1)=1 cart(0,1) worth(0,1073741823)=2147483646 cart(0,1) worth(0,715827882)=2147483646"
                + " cart(0,997) worth(0,2147483)=2147483000 worth(0,0)=0");
        s.says("INVALID_ARGUMENT if an argument is out of range");
        s.refused("", "worth(0,0)=-1");
        s.refused(SOME, "worth(2,0)=-1", "worth(-1,0)=-1", "worth(0,-1)=-1", "worth(0,2000000001)=-1", "worth(2,-1)=-1");
        s.says("NONE if it is more than 2147483647");
        // Three times 1431655766 is 4294967298, which would be 2 again in 32 bits.
        s.due(
            dry + " cart(0,2) worth(0,1073741823)=2147483646 worth(0,1073741824)=-9 worth(0,2000000000)=-9 cart(0,1)"
                + " worth(0,715827883)=-9 worth(0,1431655766)=-9 cart(0,1) worth(0,1073741824)=-9 cart(0,996)"
                + " worth(0,2147483)=2147483000 worth(0,2147484)=-9 worth(0,2000000000)=-9");
        s.still(dry + " cart(0,2)", "worth(0,1073741824)=-9");
    }

    private static void nextToCut(Sentences s) {
        s.in("Promise 29");
        s.says(
            "`int nextToCut(int bank)`: Finds the household that may still cut most at a bank this year, of several the one"
                + " with the smallest number");
        String three = "come(2)*3 addBank(12,100) addBank(90,100) grant(1,0,1) grant(2,0,1)";
        s.due(
            three + " nextToCut(0)=1 cut(1,0,1) nextToCut(0)=2 cut(2,0,1) nextToCut(0)=1 cut(1,0,5) nextToCut(0)=2 cut(2,0,4)"
                + " nextToCut(0)=2 endYear() nextToCut(0)=1",
            three + " setSpades(2,3) nextToCut(0)=2 setSpades(2,2) grant(0,0,1) nextToCut(0)=0 setAllowance(0,13)"
                + " nextToCut(0)=0 cut(0,0,1) nextToCut(0)=0 cut(0,0,1) nextToCut(0)=1",
            three + " grant(0,1,1) grant(2,1,1) nextToCut(1)=0 cut(0,1,1) nextToCut(1)=2 nextToCut(0)=1");
        s.still(SOME, "nextToCut(0)", "nextToCut(1)");
        s.says("- `bank`: a bank");
        s.range(SOME, "nextToCut(#)", 0, 1);
        s.range(FULL, "nextToCut(#)", 0, 3);
        s.says("Returns the household");
        s.due(
            SOME + " nextToCut(0)=1 nextToCut(1)=1",
            FULL + " nextToCut(0)=1 nextToCut(1)=0",
            "come(1)*6 addBank(1,100) grant(5,0,1) nextToCut(0)=5");
        s.says("INVALID_ARGUMENT if there is no such bank");
        s.refused("come(1)", "nextToCut(0)=-1", "nextToCut(-1)=-1");
        s.refused(SOME, "nextToCut(2)=-1", "nextToCut(-1)=-1");
        s.refused(FULL, "nextToCut(4)=-1");
        s.says("NONE if none may cut any more");
        s.due(
            "addBank(9,100) nextToCut(0)=-9",
            "come(1) addBank(9,100) nextToCut(0)=-9 grant(0,0,1) nextToCut(0)=0 cut(0,0,8) nextToCut(0)=0 cut(0,0,1)"
                + " nextToCut(0)=-9 setAllowance(0,10) nextToCut(0)=0 setAllowance(0,5) nextToCut(0)=-9",
            "come(1) addBank(0,100) grant(0,0,1) nextToCut(0)=-9");
        s.still("come(1) addBank(9,100)", "nextToCut(0)=-9");
    }
}
