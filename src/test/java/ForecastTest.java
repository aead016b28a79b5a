/** Promises 25 to 29: forecasts, which change nothing. */
public final class ForecastTest {
    private static final Checks checks = new Checks("ForecastTest");

    public static void main(String[] args) {
        dryIn();
        cartLoad();
        cartLoadIsWhatCartTakes();
        carts();
        cartsOnAWeakRoad();
        worth();
        nextToCut();
        nothingChanges();
        checks.end();
    }

    /** One household with one spade and the right to the one bank, and stacks that it has cut there. */
    private static PeatShares parish(int allowance, int strength, int... cuts) {
        PeatShares x = new PeatShares();
        x.addBank(allowance, strength);
        x.come(1);
        x.grant(0, 0, 1);
        for (int turfs : cuts) {
            x.cut(0, 0, turfs);
        }
        return x;
    }

    private static void dry(PeatShares x, int stack) {
        x.turn(stack);
        x.turn(stack);
        x.turn(stack);
        x.day(9, 0);
        x.day(9, 0);
    }

    private static void dryIn() {
        PeatShares x = parish(5000, 3000, 10, 10);
        checks.due("dryIn(0, 9, 0)", x.dryIn(0, 9, 0), 8);
        checks.due("dryIn(0, 1, 0)", x.dryIn(0, 1, 0), 77);
        checks.due("dryIn(0, 4, 1)", x.dryIn(0, 4, 1), 40);
        checks.due("dryIn(0, 9, 2)", x.dryIn(0, 9, 2), 15);
        checks.due("dryIn(0, 9, 3)", x.dryIn(0, 9, 3), -9);
        checks.due("dryIn(0, 0, 0)", x.dryIn(0, 0, 0), -9);
        x.turn(1);
        x.turn(1);
        x.turn(1);
        checks.due("dryIn(1, 9, 0) of one that is turned", x.dryIn(1, 9, 0), 2);
        checks.due("dryIn(1, 1, 1)", x.dryIn(1, 1, 1), 40);
        checks.due("dryIn(1, 2, 2)", x.dryIn(1, 2, 2), 20);
        x.day(9, 0);
        checks.due("dryIn(1, 9, 0) a day later", x.dryIn(1, 9, 0), 1);
        x.day(9, 0);
        checks.due("dryIn(1, 0, 9) of a dry one", x.dryIn(1, 0, 9), 0);
        checks.due("dryIn(1, 10, 0) of a dry one", x.dryIn(1, 10, 0), -1);
        checks.due("dryIn(0, -1, 0)", x.dryIn(0, -1, 0), -1);
        checks.due("dryIn(0, 0, -1)", x.dryIn(0, 0, -1), -1);
        checks.due("dryIn(0, 0, 10)", x.dryIn(0, 0, 10), -1);
        checks.due("dryIn(2, 0, 0)", x.dryIn(2, 0, 0), -1);
        checks.due("dryIn(-1, 0, 0)", x.dryIn(-1, 0, 0), -1);
    }

    private static void cartLoad() {
        PeatShares x = parish(5000, 101, 1000, 20);
        checks.due("cartLoad(0), 50 weigh 100", x.cartLoad(0), 50);
        checks.due("cartLoad(1), all turfs", x.cartLoad(1), 20);
        checks.due("cartLoad(2)", x.cartLoad(2), -1);
        checks.due("cartLoad(-1)", x.cartLoad(-1), -1);
        x.day(0, 1);
        checks.due("cartLoad(0) on 61", x.cartLoad(0), 30);
        x.cart(0, 30);
        checks.due("cartLoad(0) on 59", x.cartLoad(0), 29);
        x.day(0, 2);
        checks.due("cartLoad(1) on 19", x.cartLoad(1), 9);
        x.day(0, 3);
        checks.due("cartLoad(1) on nothing", x.cartLoad(1), -9);
        PeatShares y = parish(5000, 3000, 1000, 500);
        y.join(0, 1);
        checks.due("cartLoad(0), at most 1000", y.cartLoad(0), 1000);
        PeatShares z = parish(5000, 122, 3);
        z.day(0, 3);
        checks.due("bank(0, 3)", z.bank(0, 3), 2);
        checks.due("cartLoad(0), one turf on 2", z.cartLoad(0), 1);
        z.cart(0, 1);
        checks.due("cartLoad(0), not one on 1", z.cartLoad(0), -9);
    }

    private static void cartLoadIsWhatCartTakes() {
        PeatShares x = parish(5000, 100, 200);
        for (int day = 0; day < 10; day++) {
            x.day(3, 0);
            int most = x.cartLoad(0);
            checks.due("cart(0, one more)", x.cart(0, most + 1), -2);
            checks.due("cart(0, most) can be done", x.cart(0, most) > 0 ? 1 : 0, 1);
            x.undo();
        }
        // 100000 kg by 1718 g
        PeatShares y = parish(5000, 100, 200);
        y.turn(0);
        y.day(9, 0);
        checks.due("stack(0, 5)", y.stack(0, 5), 1718);
        checks.due("cartLoad(0)", y.cartLoad(0), 58);
        checks.due("cart(0, 58)", y.cart(0, 58), 100);
    }

    private static void carts() {
        PeatShares x = parish(5000, 3000, 1000, 1000, 1000, 1000, 1000);
        checks.due("carts(0)", x.carts(0), 1);
        checks.due("carts(5)", x.carts(5), -1);
        checks.due("carts(-1)", x.carts(-1), -1);
        x.join(0, 4);
        x.join(0, 3);
        x.join(0, 2);
        x.join(0, 1);
        checks.due("stack(0, 2)", x.stack(0, 2), 5000);
        checks.due("carts(0) of 5000", x.carts(0), 5);
        checks.due("cart(0, 1000)", x.cart(0, 1000), 2000);
        checks.due("carts(0) of 4000", x.carts(0), 4);
    }

    private static void cartsOnAWeakRoad() {
        // 50, then 49 on 98, 48 on 96 and so on: each of these wears by 2.
        int[][] due = {{1, 1}, {50, 1}, {51, 2}, {99, 2}, {100, 3}, {147, 3}, {148, 4}};
        for (int[] row : due) {
            PeatShares x = parish(5000, 100, row[0]);
            checks.due("carts(0) of " + row[0], x.carts(0), row[1]);
        }
        // 1575 wet turfs are all that the road bears until it is worn to 1, in 74 carts.
        PeatShares most = parish(5000, 100, 1000, 575);
        most.join(1, 0);
        checks.due("carts(0) of 1575", most.carts(0), 74);
        PeatShares more = parish(5000, 100, 1000, 576);
        more.join(1, 0);
        checks.due("carts(0) of 1576", more.carts(0), -9);
        int number = 0;
        while (most.count(3) > 0 && number < 100) {
            checks.due("a cart of 1575", most.cart(0, most.cartLoad(0)) > 0 ? 1 : 0, 1);
            number++;
        }
        checks.due("carts of 1575 that were carted", number, 74);
        PeatShares wet = parish(5000, 120, 10);
        wet.day(0, 3);
        checks.due("carts(0) on a road that bears nothing", wet.carts(0), -9);
    }

    private static void worth() {
        PeatShares x = parish(5000, 3000, 1000, 1000, 100);
        x.come(1);
        x.cart(2, 50);
        checks.due("worth(0, 2000000000) of damp ones", x.worth(0, 2000000000), 0);
        dry(x, 0);
        x.cart(0, 1);
        checks.due("worth(0, 2000000000) of one", x.worth(0, 2000000000), 2000000000);
        checks.due("worth(0, 2000000001)", x.worth(0, 2000000001), -1);
        checks.due("worth(0, -1)", x.worth(0, -1), -1);
        checks.due("worth(2, 1)", x.worth(2, 1), -1);
        checks.due("worth(-1, 1)", x.worth(-1, 1), -1);
        checks.due("worth(1, 5) of none", x.worth(1, 5), 0);
        x.cart(0, 1);
        checks.due("worth(0, 1073741823) of two", x.worth(0, 1073741823), 2147483646);
        checks.due("worth(0, 1073741824) of two", x.worth(0, 1073741824), -9);
        checks.due("worth(0, 0)", x.worth(0, 0), 0);
        x.cart(0, 998);
        checks.due("worth(0, 2147483) of 1000", x.worth(0, 2147483), 2147483000);
        checks.due("worth(0, 2147484) of 1000", x.worth(0, 2147484), -9);
        checks.due("worth(0, 2000000000) of 1000", x.worth(0, 2000000000), -9);
    }

    private static void nextToCut() {
        PeatShares x = new PeatShares();
        checks.due("nextToCut(0) of none", x.nextToCut(0), -1);
        x.addBank(12, 3000);
        checks.due("nextToCut(0) without households", x.nextToCut(0), -9);
        checks.due("nextToCut(1)", x.nextToCut(1), -1);
        checks.due("nextToCut(-1)", x.nextToCut(-1), -1);
        x.come(2);
        x.come(2);
        x.come(2);
        checks.due("nextToCut(0) without rights", x.nextToCut(0), -9);
        x.grant(1, 0, 1);
        x.grant(2, 0, 1);
        checks.due("nextToCut(0), 6 and 6", x.nextToCut(0), 1);
        x.cut(1, 0, 1);
        checks.due("nextToCut(0), 5 and 6", x.nextToCut(0), 2);
        x.cut(2, 0, 1);
        checks.due("nextToCut(0), 5 and 5", x.nextToCut(0), 1);
        x.cut(1, 0, 5);
        x.cut(2, 0, 4);
        checks.due("nextToCut(0), 0 and 1", x.nextToCut(0), 2);
        x.cut(2, 0, 1);
        checks.due("nextToCut(0), 0 and 0", x.nextToCut(0), -9);
        x.setAllowance(0, 2);
        checks.due("nextToCut(0), more cut than the shares", x.nextToCut(0), -9);
        x.endYear();
        checks.due("nextToCut(0) in a new year", x.nextToCut(0), 1);
        x.grant(0, 0, 1);
        checks.due("nextToCut(0), 1, 1 and 0", x.nextToCut(0), 0);
    }

    private static void nothingChanges() {
        PeatShares x = parish(5000, 100, 400, 30);
        dry(x, 1);
        x.cart(1, 3);
        String before = Checks.whole(x);
        x.dryIn(0, 9, 0);
        x.cartLoad(0);
        x.carts(0);
        x.carts(1);
        x.worth(0, 7);
        x.nextToCut(0);
        checks.due("all is as before", Checks.whole(x).equals(before) ? 1 : 0, 1);
    }
}
