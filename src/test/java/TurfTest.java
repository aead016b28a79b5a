/** Promises 7 to 13: turf that is cut, turned, joined and carted; roads, days and years. */
public final class TurfTest {
    private static final Checks checks = new Checks("TurfTest");

    public static void main(String[] args) {
        cutWithinTheShare();
        cutAtTheEdges();
        cutWhenTheShareShrinks();
        turn();
        join();
        joinRoundsUp();
        cart();
        cartAtTheEdgeOfTheRoad();
        cartDryAndDamp();
        repair();
        day();
        dryingIsCut();
        endYear();
        eachSuccessIsAnAction();
        checks.end();
    }

    /** Households with 1, 2, 3 .. spades and the right to bank 0, which is the only one. */
    private static PeatShares parish(int households, int allowance, int strength) {
        PeatShares x = new PeatShares();
        x.addBank(allowance, strength);
        for (int i = 0; i < households; i++) {
            x.come(i + 1);
            x.grant(i, 0, 1);
        }
        return x;
    }

    private static void cutWithinTheShare() {
        PeatShares x = parish(2, 100, 3000);
        checks.due("cut(0, 0, 35)", x.cut(0, 0, 35), -2);
        checks.due("cut(0, 0, 20)", x.cut(0, 0, 20), 0);
        checks.due("cut(1, 0, 66)", x.cut(1, 0, 66), 1);
        checks.due("cut(0, 0, 15)", x.cut(0, 0, 15), -2);
        checks.due("cut(0, 0, 14)", x.cut(0, 0, 14), 2);
        checks.due("cut(1, 0, 1)", x.cut(1, 0, 1), -2);
        checks.due("right(0, 0, 1)", x.right(0, 0, 1), 34);
        checks.due("right(1, 0, 1)", x.right(1, 0, 1), 66);
        checks.due("bank(0, 5)", x.bank(0, 5), 100);
        checks.due("stack(1, 0)", x.stack(1, 0), 1);
        checks.due("stack(1, 1)", x.stack(1, 1), 0);
        checks.due("stack(1, 2)", x.stack(1, 2), 66);
        checks.due("stack(1, 3)", x.stack(1, 3), 100000);
        checks.due("stack(1, 4)", x.stack(1, 4), 0);
    }

    private static void cutAtTheEdges() {
        PeatShares x = parish(1, 5000, 3000);
        x.come(9);
        checks.due("cut(0, 0, 0)", x.cut(0, 0, 0), -1);
        checks.due("cut(0, 0, 1001)", x.cut(0, 0, 1001), -1);
        checks.due("cut(2, 0, 1)", x.cut(2, 0, 1), -1);
        checks.due("cut(-1, 0, 1)", x.cut(-1, 0, 1), -1);
        checks.due("cut(0, 1, 1)", x.cut(0, 1, 1), -1);
        checks.due("cut(0, -1, 1)", x.cut(0, -1, 1), -1);
        checks.due("cut(1, 0, 1) without the right", x.cut(1, 0, 1), -2);
        for (int i = 0; i < 12; i++) {
            checks.due("cut(0, 0, 1)", x.cut(0, 0, 1), i);
        }
        checks.due("cut(0, 0, 1) as stack 12", x.cut(0, 0, 1), -3);
        checks.due("cut(1, 0, 1) as stack 12", x.cut(1, 0, 1), -2);
        checks.due("cut(1, 0, 0) as stack 12", x.cut(1, 0, 0), -1);
        x.cart(3, 1);
        x.turn(11);
        checks.due("cut(0, 0, 1000) when there is room again", x.cut(0, 0, 1000), 11);
        checks.due("stack(11, 4)", x.stack(11, 4), 0);
        checks.due("stack(11, 2)", x.stack(11, 2), 1000);
    }

    private static void cutWhenTheShareShrinks() {
        PeatShares x = parish(1, 100, 3000);
        x.cut(0, 0, 80);
        x.setAllowance(0, 50);
        checks.due("right(0, 0, 2)", x.right(0, 0, 2), 0);
        checks.due("cut(0, 0, 1)", x.cut(0, 0, 1), -2);
        x.setAllowance(0, 81);
        checks.due("cut(0, 0, 1) of 81", x.cut(0, 0, 1), 1);
        x.grant(0, 0, 0);
        x.grant(0, 0, 1);
        checks.due("right(0, 0, 1) after the right went and came", x.right(0, 0, 1), 81);
    }

    private static void turn() {
        PeatShares x = parish(1, 100, 3000);
        checks.due("turn(0) of none", x.turn(0), -1);
        x.cut(0, 0, 10);
        x.cut(0, 0, 10);
        checks.due("turn(2)", x.turn(2), -1);
        checks.due("turn(-1)", x.turn(-1), -1);
        checks.due("turn(1)", x.turn(1), 1);
        checks.due("turn(1)", x.turn(1), 2);
        checks.due("turn(1)", x.turn(1), 3);
        checks.due("turn(1) a fourth time", x.turn(1), -3);
        checks.due("stack(1, 4)", x.stack(1, 4), 3);
        checks.due("stack(0, 4)", x.stack(0, 4), 0);
    }

    private static void join() {
        PeatShares x = parish(2, 300, 3000);
        x.addBank(300, 3000);
        x.grant(0, 1, 1);
        x.cut(0, 0, 10);
        x.cut(1, 0, 20);
        x.cut(0, 1, 30);
        x.cut(0, 0, 40);
        checks.due("join(0, 0)", x.join(0, 0), -1);
        checks.due("join(0, 4)", x.join(0, 4), -1);
        checks.due("join(4, 0)", x.join(4, 0), -1);
        checks.due("join(-1, 0)", x.join(-1, 0), -1);
        checks.due("join(0, -1)", x.join(0, -1), -1);
        checks.due("join(0, 1) of two households", x.join(0, 1), -2);
        checks.due("join(0, 2) at two banks", x.join(0, 2), -2);
        x.turn(0);
        x.turn(0);
        x.turn(3);
        checks.due("join(0, 3)", x.join(0, 3), 50);
        checks.due("count(3)", x.count(3), 3);
        checks.due("stack(0, 0), the one behind", x.stack(0, 0), 1);
        checks.due("stack(1, 1), the one behind", x.stack(1, 1), 1);
        checks.due("stack(2, 2), the other one", x.stack(2, 2), 50);
        checks.due("stack(2, 4), as often as the one less turned", x.stack(2, 4), 1);
        checks.due("stack(3, 0)", x.stack(3, 0), -1);
        x.cut(0, 0, 5);
        checks.due("join(3, 2) onto a smaller number", x.join(3, 2), 55);
        checks.due("stack(2, 4)", x.stack(2, 4), 0);
        checks.due("bank(0, 6)", x.bank(0, 6), 75);
        checks.due("bank(0, 5)", x.bank(0, 5), 75);
    }

    private static void joinRoundsUp() {
        PeatShares x = parish(1, 5000, 3000);
        x.cut(0, 0, 2);
        x.day(9, 0);
        checks.due("stack(0, 3)", x.stack(0, 3), 85937);
        x.cut(0, 0, 1);
        checks.due("join(1, 0)", x.join(1, 0), 3);
        // (2 * 85937 + 100000) / 3 = 90624.66
        checks.due("stack(0, 3) after join", x.stack(0, 3), 90625);
        PeatShares y = parish(1, 5000, 3000);
        y.cut(0, 0, 1);
        y.day(9, 0);
        y.cut(0, 0, 1);
        y.join(0, 1);
        checks.due("stack(0, 3), a half rounded up", y.stack(0, 3), 92969);
        x.cut(0, 0, 1000);
        x.cut(0, 0, 1000);
        x.cut(0, 0, 1000);
        x.cut(0, 0, 1000);
        x.cut(0, 0, 997);
        x.join(1, 2);
        x.join(1, 2);
        x.join(1, 2);
        x.join(1, 2);
        checks.due("stack(1, 3) of many wet ones", x.stack(1, 3), 100000);
        checks.due("join(1, 0)", x.join(1, 0), 5000);
        // (4997 * 100000 + 3 * 90625) / 5000 = 99994.375
        checks.due("stack(0, 3) after join", x.stack(0, 3), 99995);
    }

    private static void cart() {
        PeatShares x = parish(1, 5000, 3000);
        checks.due("cart(0, 1) of none", x.cart(0, 1), -1);
        x.cut(0, 0, 100);
        x.cut(0, 0, 50);
        checks.due("cart(2, 1)", x.cart(2, 1), -1);
        checks.due("cart(-1, 1)", x.cart(-1, 1), -1);
        checks.due("cart(0, 0)", x.cart(0, 0), -1);
        checks.due("cart(0, 1001)", x.cart(0, 1001), -1);
        checks.due("cart(0, 101)", x.cart(0, 101), -2);
        checks.due("cart(0, 25)", x.cart(0, 25), 50);
        checks.due("bank(0, 2), 50 by 50", x.bank(0, 2), 1);
        checks.due("cart(0, 26)", x.cart(0, 26), 52);
        checks.due("bank(0, 2), 52 by 50 rounded up", x.bank(0, 2), 3);
        checks.due("stack(0, 2)", x.stack(0, 2), 49);
        checks.due("bank(0, 7)", x.bank(0, 7), 51);
        checks.due("household(0, 2)", x.household(0, 2), 51);
        checks.due("cart(0, 49)", x.cart(0, 49), 98);
        checks.due("count(3)", x.count(3), 1);
        checks.due("stack(0, 2), the one behind", x.stack(0, 2), 50);
        checks.due("bank(0, 7)", x.bank(0, 7), 100);
        checks.due("bank(0, 6)", x.bank(0, 6), 50);
    }

    private static void cartAtTheEdgeOfTheRoad() {
        PeatShares x = parish(1, 5000, 100);
        x.cut(0, 0, 1000);
        checks.due("cart(0, 51)", x.cart(0, 51), -2);
        checks.due("cart(0, 50), as much as it bears", x.cart(0, 50), 100);
        checks.due("bank(0, 2)", x.bank(0, 2), 2);
        checks.due("bank(0, 3)", x.bank(0, 3), 98);
        checks.due("cart(0, 50)", x.cart(0, 50), -2);
        checks.due("cart(0, 49)", x.cart(0, 49), 98);
        x.day(0, 2);
        checks.due("bank(0, 3), 100 - 80 - 4", x.bank(0, 3), 16);
        checks.due("cart(0, 9)", x.cart(0, 9), -2);
        checks.due("cart(0, 8)", x.cart(0, 8), 16);
        x.day(0, 3);
        checks.due("bank(0, 3), not below 0", x.bank(0, 3), 0);
        checks.due("cart(0, 1)", x.cart(0, 1), -2);
        x.day(9, 0);
        checks.due("bank(0, 3) on a dry day", x.bank(0, 3), 95);
    }

    private static void cartDryAndDamp() {
        PeatShares x = parish(2, 5000, 3000);
        x.cut(1, 0, 100);
        x.turn(0);
        x.turn(0);
        x.turn(0);
        // 100000 * (1 - 36 / 64) = 43750
        x.day(9, 0);
        checks.due("cart(0, 10): 10 * 1437", x.cart(0, 10), 15);
        // 43750 * 28 / 64 = 19140.6
        x.day(9, 0);
        checks.due("stack(0, 3)", x.stack(0, 3), 19140);
        checks.due("cart(0, 20): 20 * 1191", x.cart(0, 20), 24);
        checks.due("household(1, 1)", x.household(1, 1), 20);
        checks.due("household(1, 2)", x.household(1, 2), 10);
        checks.due("household(0, 1)", x.household(0, 1), 0);
        checks.due("household(0, 2)", x.household(0, 2), 0);
        checks.due("household(1, 5)", x.household(1, 5), 70);
    }

    private static void repair() {
        PeatShares x = parish(1, 5000, 3000);
        x.addBank(10, 100);
        checks.due("repair(2)", x.repair(2), -1);
        checks.due("repair(-1)", x.repair(-1), -1);
        checks.due("repair(0) without wear", x.repair(0), 0);
        x.cut(0, 0, 1000);
        x.cart(0, 1000);
        checks.due("bank(0, 2)", x.bank(0, 2), 40);
        checks.due("repair(1)", x.repair(1), 0);
        checks.due("bank(0, 2)", x.bank(0, 2), 40);
        checks.due("repair(0)", x.repair(0), 40);
        checks.due("bank(0, 2)", x.bank(0, 2), 0);
        checks.due("bank(0, 3)", x.bank(0, 3), 3000);
        checks.due("bank(0, 7)", x.bank(0, 7), 1000);
    }

    private static void day() {
        PeatShares x = parish(1, 5000, 3000);
        checks.due("day(-1, 0)", x.day(-1, 0), -1);
        checks.due("day(10, 0)", x.day(10, 0), -1);
        checks.due("day(0, -1)", x.day(0, -1), -1);
        checks.due("day(0, 10)", x.day(0, 10), -1);
        checks.due("count(6)", x.count(6), 0);
        checks.due("day(9, 9) without stacks", x.day(9, 9), 0);
        checks.due("count(5)", x.count(5), 9);
        checks.due("count(6)", x.count(6), 1);
        x.cut(0, 0, 10);
        x.cut(0, 0, 10);
        x.cut(0, 0, 10);
        for (int i = 0; i < 3; i++) {
            x.turn(0);
            x.turn(2);
        }
        checks.due("day(9, 0)", x.day(9, 0), 0);
        checks.due("day(9, 0)", x.day(9, 0), 2);
        checks.due("count(4)", x.count(4), 2);
        checks.due("count(5)", x.count(5), 0);
        checks.due("day(0, 7)", x.day(0, 7), 2);
        // 19140 + 10500 = 29640
        checks.due("stack(2, 3)", x.stack(2, 3), 29640);
        checks.due("day(0, 1)", x.day(0, 1), 0);
        checks.due("stack(2, 3)", x.stack(2, 3), 31140);
        checks.due("count(6)", x.count(6), 5);
    }

    private static void dryingIsCut() {
        PeatShares x = parish(1, 5000, 3000);
        x.cut(0, 0, 10);
        x.day(0, 9);
        checks.due("stack(0, 3), at most wet through", x.stack(0, 3), 100000);
        x.day(1, 1);
        // 100000 * 63 / 64 = 98437.5, and 1500
        checks.due("stack(0, 3)", x.stack(0, 3), 99937);
        x.turn(0);
        x.turn(0);
        x.day(7, 2);
        // 99937 * 43 / 64 = 67145.17, and 3000
        checks.due("stack(0, 3)", x.stack(0, 3), 70145);
        x.day(0, 0);
        checks.due("stack(0, 3) without wind and rain", x.stack(0, 3), 70145);
    }

    private static void endYear() {
        PeatShares x = parish(2, 300, 3000);
        x.addBank(100, 3000);
        x.grant(0, 1, 1);
        x.cut(0, 0, 100);
        x.cut(1, 0, 150);
        x.cut(0, 1, 70);
        x.cart(0, 40);
        x.day(3, 4);
        checks.due("endYear()", x.endYear(), 280);
        checks.due("count(0)", x.count(0), 1);
        checks.due("count(3)", x.count(3), 0);
        checks.due("count(5)", x.count(5), 0);
        checks.due("count(6)", x.count(6), 1);
        checks.due("bank(0, 8)", x.bank(0, 8), 210);
        checks.due("bank(1, 8)", x.bank(1, 8), 70);
        checks.due("bank(0, 2), wear stays", x.bank(0, 2), 2);
        checks.due("household(0, 2), sheds stay", x.household(0, 2), 40);
        checks.due("bank(0, 5)", x.bank(0, 5), 250);
        checks.due("bank(0, 6)", x.bank(0, 6), 0);
        checks.due("household(0, 4)", x.household(0, 4), 0);
        checks.due("household(0, 5)", x.household(0, 5), 0);
        checks.due("right(0, 0, 1)", x.right(0, 0, 1), 0);
        checks.due("right(1, 0, 1)", x.right(1, 0, 1), 0);
        checks.due("right(0, 1, 1)", x.right(0, 1, 1), 0);
        checks.due("right(0, 0, 2)", x.right(0, 0, 2), 100);
        checks.due("cut(1, 0, 200)", x.cut(1, 0, 200), 0);
        checks.due("endYear() again", x.endYear(), 200);
        checks.due("bank(0, 8) of both years", x.bank(0, 8), 410);
        checks.due("bank(0, 5) of both years", x.bank(0, 5), 450);
        checks.due("endYear() without stacks", x.endYear(), 0);
    }

    private static void eachSuccessIsAnAction() {
        PeatShares x = parish(1, 5000, 3000);
        x.cut(0, 0, 10);
        x.cut(0, 0, 10);
        String before = Checks.seen(x);
        x.turn(0);
        x.join(0, 1);
        x.cart(0, 5);
        x.repair(0);
        x.day(0, 0);
        for (int left = 4; left >= 0; left--) {
            checks.due("undo()", x.undo(), left);
        }
        checks.due("all is as before", Checks.seen(x).equals(before) ? 1 : 0, 1);
        x.endYear();
        checks.due("count(8) after endYear", x.count(8), 1);
        x.undo();
        checks.due("all is as before the year's end", Checks.seen(x).equals(before) ? 1 : 0, 1);
        x.cut(0, 0, 7);
        checks.due("count(8) after cut", x.count(8), 1);
        x.turn(9);
        x.join(0, 0);
        x.cart(0, 999);
        x.repair(3);
        x.day(10, 0);
        x.cut(0, 0, 0);
        checks.due("count(8) after errors", x.count(8), 1);
    }
}
