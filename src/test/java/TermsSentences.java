/** The sentences of the sections "What it is" to "Roads". */
final class TermsSentences {
    /** One household, which may cut 5000 turfs at the one bank. */
    static final String ONE = "come(1) addBank(5000,3000) grant(0,0,1)";
    /** A stack of 1000 turfs there that has been turned three times. */
    static final String TURNED = ONE + " cut(0,0,1000) turn(0)*3";

    private TermsSentences() {
    }

    static void tell(Sentences s) {
        whatItIs(s);
        householdsAndBanks(s);
        shares(s);
        stacks(s);
        dryAndWeight(s);
        drying(s);
        roads(s);
        loads(s);
    }

    private static void whatItIs(Sentences s) {
        s.in("What it is");
        s.saysBesides(
            "Peat banks of a parish: turf that is cut by rights and shares, stacks that dry by wind and get wet by rain and"
                + " are turned, roads that bear so much and wear, carts, sheds, what is left on the banks when a year ends,"
                + " accounts bank by bank, forecasts of dry stacks, worth, snapshots, and commands that are run from a text");
        s.says("An object is used for at most 512 calls after it has been made; what later calls answer is free");
        s.due("day(0,0)=0*511 count(6)=511", "endYear()=0*511 endYear()=0", "take(0)=0*256 undo()=4 take(1)=0*254 undo()=4");
        s.in("Terms");
        s.saysBesides("All numbers are whole");
        s.says("Wetness is told in thousandths of a percent: 100000 is wet through");
        s.due(ONE + " cut(0,0,5) stack(0,3)=100000 day(0,9) stack(0,3)=100000 stack(0,5)=2000");
    }

    private static void householdsAndBanks(Sentences s) {
        s.in("Households and rights");
        s.says("There are at most 6 households, numbered from 0 in the order in which they came, each with 1 to 9 spades");
        s.due(
            "come(1)=0 come(9)=1 come(2)=2 come(8)=3 come(3)=4 come(7)=5 count(1)=6 household(0,0)=1 household(1,0)=9"
                + " household(2,0)=2 household(3,0)=8 household(4,0)=3 household(5,0)=7 household(6,0)=-1");
        s.refused("come(1)*6", "come(1)=-3", "come(9)=-3");
        s.refused("come(1)*5", "come(0)=-1", "come(10)=-1", "setSpades(4,0)=-1", "setSpades(4,10)=-1", "household(5,0)=-1");

        s.says("There are at most 4 banks, numbered from 0 in the order in which they were added");
        s.due(
            "addBank(10,101)=0 addBank(20,202)=1 addBank(30,303)=2 addBank(40,404)=3 count(2)=4 bank(0,0)=10 bank(1,0)=20"
                + " bank(2,0)=30 bank(3,0)=40 bank(0,1)=101 bank(1,1)=202 bank(2,1)=303 bank(3,1)=404 bank(4,0)=-1");
        s.refused("addBank(10,100)*4", "addBank(10,100)=-3", "addBank(0,3000)=-3");

        s.says("A household has the right to a bank or not (at first not)");
        s.due(
            "come(1) addBank(5,100) bank(0,4)=0 household(0,3)=0 right(0,0,0)=0 grant(0,0,1)=1 bank(0,4)=1 household(0,3)=1"
                + " right(0,0,0)=5 grant(0,0,0)=0 bank(0,4)=0 household(0,3)=0 right(0,0,0)=0",
            "come(1) addBank(5,100) grant(0,0,1) come(1) addBank(5,100) bank(0,4)=1 bank(1,4)=0 household(0,3)=1"
                + " household(1,3)=0");

        s.says("A bank has an allowance of 0 to 5000 turfs for a year");
        s.due(
            ONE + " right(0,0,0)=5000 cut(0,0,1000)*5 cut(0,0,1)=-2 endYear() cut(0,0,1000)*5 cut(0,0,1)=-2",
            "come(9) addBank(0,100) grant(0,0,1) right(0,0,0)=0 cut(0,0,1)=-2 setAllowance(0,1)=0 cut(0,0,1)=0 cut(0,0,1)=-2");
        s.refused(ONE, "addBank(-1,100)=-1", "addBank(5001,100)=-1", "setAllowance(0,-1)=-1", "setAllowance(0,5001)=-1");
    }

    private static void shares(Sentences s) {
        s.in("Households and rights");
        s.says(
            "The share of a household that has the right is the allowance times its spades, divided by the spades of all that"
                + " have the right, rounded down; what is left over then goes to these households one by one, one turf each,"
                + " by their numbers");
        // Allowance 101: 30.3, 30.3 and 40.4, and one is left over; 102: 30.6, 30.6 and 40.8, and two are left over.
        s.due(
            holders("come(3) come(3) come(4)", 101) + sharesAre(31, 30, 40),
            holders("come(3) come(3) come(4)", 102) + sharesAre(31, 31, 40),
            holders("come(3) come(3) come(4)", 109) + sharesAre(33, 33, 43),
            holders("come(3) come(3) come(4)", 110) + sharesAre(33, 33, 44),
            holders("come(1)*6", 5) + sharesAre(1, 1, 1, 1, 1, 0),
            holders("come(1)*6", 6) + sharesAre(1, 1, 1, 1, 1, 1),
            holders("come(1)*6", 7) + sharesAre(2, 1, 1, 1, 1, 1),
            holders("come(9)*6", 5000) + sharesAre(834, 834, 833, 833, 833, 833),
            holders("come(9) come(8) come(7) come(6) come(5) come(4)", 5000) + sharesAre(1154, 1026, 898, 769, 641, 512),
            holders("come(9) come(1)", 5000) + sharesAre(4500, 500),
            holders("come(1) come(9)", 1) + sharesAre(1, 0),
            holders("come(9)", 4999) + sharesAre(4999),
            holders("come(9)*6", 0) + sharesAre(0, 0, 0, 0, 0, 0));
        s.due(
            "come(1)*4 addBank(3,100) grant(3,0,1) grant(1,0,1)" + sharesAre(0, 2, 0, 1),
            "come(1)*6 addBank(5,100) grant(5,0,1) grant(4,0,1) grant(2,0,1)" + sharesAre(0, 0, 2, 0, 2, 1));

        s.says("The share of a household without the right is 0");
        s.due(
            "come(9) come(1) addBank(100,100)" + sharesAre(0, 0) + " grant(1,0,1)" + sharesAre(0, 100) + " grant(0,0,1)"
                + sharesAre(90, 10) + " grant(1,0,0)" + sharesAre(100, 0) + " grant(0,0,0)" + sharesAre(0, 0));
        s.refused("come(9) come(1) addBank(100,100) grant(1,0,1)", "cut(0,0,1)=-2");

        s.says(
            "Shares follow allowances, rights and spades as they are; what a household has cut at a bank this year can be more"
                + " than its share then");
        s.due(
            holders("come(1) come(9)", 10) + sharesAre(1, 9) + " setSpades(1,1)" + sharesAre(5, 5) + " setAllowance(0,11)"
                + sharesAre(6, 5) + " grant(0,0,0)" + sharesAre(0, 11) + " grant(0,0,1) setSpades(0,9)" + sharesAre(10, 1));
        String cut = holders("come(1) come(1)", 100) + " cut(0,0,50)=0";
        s.due(
            cut + " setAllowance(0,20) right(0,0,0)=10 right(0,0,1)=50 right(0,0,2)=0",
            cut + " setSpades(1,9) right(0,0,0)=10 right(0,0,1)=50 right(0,0,2)=0",
            cut + " grant(0,0,0) right(0,0,0)=0 right(0,0,1)=50 right(0,0,2)=0 grant(0,0,1) right(0,0,0)=50 right(0,0,1)=50",
            cut + " grant(1,0,0) right(0,0,0)=100 right(0,0,2)=50 cut(0,0,51)=-2 cut(0,0,50)=1 grant(1,0,1) right(0,0,1)=100");
        s.refused(cut + " setAllowance(0,20)", "cut(0,0,1)=-2");
    }

    /** Households that all have the right to bank 0, which has this allowance. */
    private static String holders(String comes, int allowance) {
        PeatShares x = new PeatShares();
        Calls.play(x, comes);
        StringBuilder calls = new StringBuilder(comes).append(" addBank(").append(allowance).append(",100)");
        int households = x.count(1);
        for (int i = 0; i < households; i++) {
            calls.append(" grant(").append(i).append(",0,1)");
        }
        return calls.toString();
    }

    private static String sharesAre(int... shares) {
        StringBuilder calls = new StringBuilder();
        for (int i = 0; i < shares.length; i++) {
            calls.append(" right(").append(i).append(",0,0)=").append(shares[i]);
        }
        return calls.toString();
    }

    private static void stacks(Sentences s) {
        s.in("Stacks");
        s.says(
            "There are at most 12 stacks at a time, numbered from 0 in the order in which they were made; when one is gone,"
                + " the numbers of those behind become smaller by 1");
        s.due(
            ONE + " cut(0,0,10)=0 cut(0,0,20)=1 cut(0,0,30)=2 cut(0,0,40)=3 cut(0,0,50)=4 cut(0,0,60)=5 cut(0,0,70)=6"
                + " cut(0,0,80)=7 cut(0,0,90)=8 cut(0,0,100)=9 cut(0,0,110)=10 cut(0,0,120)=11 count(3)=12 stack(0,2)=10"
                + " stack(1,2)=20 stack(10,2)=110 stack(11,2)=120 stack(12,2)=-1");
        s.refused(ONE + " cut(0,0,1)*12", "cut(0,0,1)=-3", "stack(12,0)=-1");
        s.due(
            ONE + " cut(0,0,1)*12 cart(11,1) stack(11,2)=-1 cut(0,0,2)=11 stack(11,2)=2 cut(0,0,1)=-3",
            ONE + " cut(0,0,1)*12 join(0,11)=2 stack(10,2)=2 cut(0,0,3)=11 cut(0,0,1)=-3",
            ONE + " cut(0,0,1)*12 endYear()=12 cut(0,0,5)=0 count(3)=1");
        String four = ONE + " cut(0,0,10) cut(0,0,20) cut(0,0,30) cut(0,0,40) turn(2)";
        s.due(
            four + " cart(1,20) stack(0,2)=10 stack(1,2)=30 stack(1,4)=1 stack(2,2)=40 stack(3,2)=-1 cut(0,0,50)=3"
                + " stack(3,2)=50",
            four + " cart(0,10) stack(0,2)=20 stack(1,2)=30 stack(2,2)=40 count(3)=3",
            four + " cart(3,40) stack(0,2)=10 stack(1,2)=20 stack(2,2)=30 count(3)=3",
            four + " join(0,2)=40 stack(0,2)=20 stack(1,2)=40 stack(2,2)=40 count(3)=3",
            four + " join(2,0)=40 stack(0,2)=40 stack(1,2)=20 stack(2,2)=40 count(3)=3");

        s.says(
            "A stack belongs to a household and lies at a bank; it has a number of turfs, a wetness (at first 100000), and has"
                + " been turned 0 to 3 times");
        s.due(
            "come(1) come(1) addBank(9,100) addBank(9,100) grant(1,0,1) grant(0,1,1) cut(1,0,7) cut(0,1,8) stack(0,0)=1"
                + " stack(0,1)=0 stack(0,2)=7 stack(0,3)=100000 stack(0,4)=0 stack(1,0)=0 stack(1,1)=1 stack(1,2)=8"
                + " stack(1,3)=100000 stack(1,4)=0 turn(0)=1 stack(0,4)=1 turn(0)=2 stack(0,4)=2 turn(0)=3 stack(0,4)=3"
                + " stack(1,4)=0",
            TURNED + " day(9,0) cart(0,1000) cut(0,0,5)=0 stack(0,3)=100000 stack(0,4)=0",
            TURNED + " day(9,0) endYear() cut(0,0,5)=0 stack(0,3)=100000 stack(0,4)=0");
        s.refused(TURNED, "turn(0)=-3");
    }

    private static void dryAndWeight(Sentences s) {
        String toEdge = TURNED + " day(4,0) day(8,1) day(8,7)";
        s.in("Stacks");
        s.says("A stack is dry if its wetness is at most 30000");
        s.due(
            toEdge + "=1 stack(0,3)=30000 stack(0,6)=1 count(4)=1 dryIn(0,0,9)=0 cart(0,5) household(0,1)=5 household(0,2)=0",
            TURNED + " day(1,0) day(5,3) day(9,3) day(7,7)=1 stack(0,3)=29999 stack(0,6)=1 count(4)=1",
            TURNED + " day(5,4) day(9,7) day(6,2)=0 stack(0,3)=30001 stack(0,6)=0 count(4)=0 dryIn(0,0,0)=-9 dryIn(0,1,0)=1"
                + " cart(0,5) household(0,1)=0 household(0,2)=5",
            ONE + " cut(0,0,5) stack(0,6)=0 count(4)=0");

        s.says("A turf weighs 1000 grams and 1 gram more for each 100 of wetness, rounded down");
        s.due(
            ONE + " cut(0,0,5) stack(0,5)=2000",
            TURNED + " day(1,0) day(1,5) day(2,8) day(1,7) stack(0,3)=99999 stack(0,5)=1999",
            TURNED + " day(6,2) day(9,0)*7 stack(0,3)=200 stack(0,5)=1002",
            TURNED + " day(7,6) day(9,0)*7 stack(0,3)=199 stack(0,5)=1001",
            TURNED + " day(4,0) day(9,0)*8 stack(0,3)=100 stack(0,5)=1001",
            TURNED + " day(5,4) day(9,0)*8 stack(0,3)=99 stack(0,5)=1000",
            TURNED + " day(9,0)*13 stack(0,3)=1 stack(0,5)=1000",
            TURNED + " day(6,0) day(9,0)*13 stack(0,3)=0 stack(0,5)=1000 day(9,0)=1 stack(0,3)=0",
            toEdge + " stack(0,5)=1300");
    }

    private static void drying(Sentences s) {
        s.in("Stacks");
        s.says(
            "On a day with a wind of 0 to 9 and a rain of 0 to 9 the wetness of each stack becomes: its wetness times (1 - x /"
                + " 64), where x is the wind times (the number of its turns + 1), in double arithmetic, cut to a whole number,"
                + " and 1500 for the rain 1, 3000 for 2, and so on, more; but at most 100000");
        for (int turns = 0; turns <= 3; turns++) {
            for (int wind = 0; wind <= 9; wind++) {
                for (int rain = 0; rain <= 9; rain++) {
                    int first = dried(100000, turns, wind, rain);
                    int second = dried(first, turns, wind, rain);
                    String day = " day(" + wind + "," + rain + ") stack(0,3)=";
                    s.due(ONE + " cut(0,0,1) turn(0)*" + turns + day + first + day + second);
                }
            }
        }
        s.due(
            ONE + " cut(0,0,1)*3 turn(1) turn(2)*3 day(9,1) stack(0,3)=87437 stack(1,3)=73375 stack(2,3)=45250",
            ONE + " cut(0,0,1) day(1,0) stack(0,3)=98437 day(0,0) stack(0,3)=98437",
            TURNED + " day(2,3)*2 day(0,9) stack(0,3)=98500 day(0,1) stack(0,3)=100000",
            TURNED + " day(1,3) day(2,1) day(1,2) day(0,9) stack(0,3)=98501 day(0,1) stack(0,3)=100000",
            TURNED + " day(1,0) day(1,5) day(2,8) day(1,6) stack(0,3)=98499 day(0,1) stack(0,3)=99999",
            TURNED + " day(1,0) day(1,5) day(2,8) day(1,6) stack(0,3)=98499 day(0,9) stack(0,3)=100000");
        s.refused(TURNED, "day(-1,0)=-1", "day(10,0)=-1", "day(0,-1)=-1", "day(0,10)=-1");
    }

    /** In whole numbers, as 64ths of a wetness are exact in double arithmetic. */
    private static int dried(int wetness, int turns, int wind, int rain) {
        return Math.min(100000, wetness * (64 - wind * (turns + 1)) / 64 + 1500 * rain);
    }

    private static void roads(Sentences s) {
        s.in("Roads");
        s.says("Each bank has a road with a strength of 100 to 3000 (kilograms)");
        s.due("addBank(0,100) addBank(0,3000) bank(0,1)=100 bank(1,1)=3000 bank(0,3)=100 bank(1,3)=3000");
        s.refused(ONE, "addBank(0,99)=-1", "addBank(0,3001)=-1");

        s.says("What it bears today is its strength, less 40 times the rain of the day before, less its wear; but at least 0");
        s.due(
            "addBank(0,121) addBank(0,120) addBank(0,119) addBank(0,3000) day(9,1) bank(0,3)=81 bank(1,3)=80 bank(2,3)=79"
                + " bank(3,3)=2960 day(0,3) bank(0,3)=1 bank(1,3)=0 bank(2,3)=0 bank(3,3)=2880 day(0,9) bank(0,3)=0"
                + " bank(1,3)=0 bank(2,3)=0 bank(3,3)=2640 day(0,0) bank(0,3)=121 bank(1,3)=120 bank(2,3)=119 bank(3,3)=3000",
            "come(1) addBank(99,101) grant(0,0,1) cut(0,0,99) cart(0,50)=100 bank(0,2)=2 bank(0,3)=99 day(0,2) bank(0,3)=19"
                + " day(0,3) bank(0,3)=0 day(0,9) bank(0,3)=0 day(0,1) bank(0,3)=59 bank(0,1)=101",
            "come(1) addBank(99,123) grant(0,0,1) cut(0,0,99) day(0,3) bank(0,3)=3 cart(0,1)=2 bank(0,3)=2 cart(0,1)=2"
                + " bank(0,3)=1 cart(0,1)=-2 endYear() bank(0,3)=121");

        s.says("The rain of the day before is 0 at first");
        s.due("count(5)=0 addBank(0,100) bank(0,3)=100");
    }

    private static void loads(Sentences s) {
        String of1000Grams = TURNED + " day(5,4) day(9,0)*8 stack(0,5)=1000";
        String of1001Grams = TURNED + " day(4,0) day(9,0)*8 stack(0,5)=1001";
        s.in("Roads");
        s.says("The load of a cart is the number of its turfs times what a turf weighs, divided by 1000, rounded up");
        s.due(
            of1000Grams + " cart(0,1)=1",
            of1000Grams + " cart(0,999)=999",
            of1000Grams + " cart(0,1000)=1000",
            of1001Grams + " cart(0,1)=2",
            of1001Grams + " cart(0,999)=1000",
            of1001Grams + " cart(0,1000)=1001",
            TURNED + " cart(0,1)=2",
            TURNED + " cart(0,1000)=2000",
            TURNED + " day(1,0) day(1,5) day(2,8) day(1,7) stack(0,5)=1999 cart(0,1)=2 cart(0,500)=1000 cart(0,499)=998");

        s.says("Each cart makes the wear greater by its load divided by 50, rounded up");
        s.due(
            of1000Grams + " cart(0,1)=1 bank(0,2)=1",
            of1000Grams + " cart(0,49)=49 bank(0,2)=1",
            of1000Grams + " cart(0,50)=50 bank(0,2)=1",
            of1000Grams + " cart(0,51)=51 bank(0,2)=2",
            of1000Grams + " cart(0,100)=100 bank(0,2)=2",
            of1000Grams + " cart(0,101)=101 bank(0,2)=3",
            of1000Grams + " cart(0,1000)=1000 bank(0,2)=20",
            TURNED + " cart(0,1000)=2000 bank(0,2)=40",
            of1000Grams + " cart(0,1) cart(0,1) cart(0,51) bank(0,2)=4 bank(0,3)=2996",
            "come(1) addBank(9,100) addBank(9,100) grant(0,0,1) grant(0,1,1) cut(0,1,9) cart(0,9)=18 bank(0,2)=0 bank(1,2)=1");
    }
}
