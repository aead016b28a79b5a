/** Promises 20 to 24: what can be looked at. */
public final class LookingTest {
    private static final Checks checks = new Checks("LookingTest");

    public static void main(String[] args) {
        PeatShares x = parish();
        String before = Checks.whole(x);
        count(x);
        household(x);
        bank(x);
        right(x);
        stack(x);
        checks.due("looking changes nothing", Checks.whole(x).equals(before) ? 1 : 0, 1);
        sharesWithLeftOver();
        sharesFollow();
        sharesAtTheEdges();
        edgeOfDry();
        fullParish();
        checks.end();
    }

    /**
     * Household 0 (2 spades) has the right to both banks, 1 (3 spades) to none, 2 (5 spades) to bank 0.
     * A year has passed, in which 0 cut and left 20 at bank 1, and 2 carted 15 damp ones from bank 0.
     */
    private static PeatShares parish() {
        PeatShares x = new PeatShares();
        Checks.program(x, "house 2;house 3;house 5;bank 100 1000;bank 60 200;right 0 0;right 0 1;right 2 0;");
        Checks.program(x, "cut 0 1 20;cut 2 0 15;cart 1 15;");
        x.endYear();
        Checks.program(x, "cut 0 0 7;cut 2 0 30;cut 0 1 8;turn 1;turn 1;turn 1;day 9 0;day 9 1;cart 1 4;");
        x.take(1);
        Checks.write(x, "house");
        return x;
    }

    private static void row(String call, int[] got, int... want) {
        for (int i = 0; i < want.length; i++) {
            checks.due(call.replace("#", "" + i), got[i], want[i]);
        }
    }

    private static void count(PeatShares x) {
        int[] got = new int[10];
        for (int what = 0; what < 10; what++) {
            got[what] = x.count(what);
        }
        row("count(#)", got, 1, 3, 2, 3, 1, 1, 2, 1, 5, 5);
        checks.due("count(-1)", x.count(-1), -1);
        checks.due("count(10)", x.count(10), -1);
        checks.due("count(MAX)", x.count(Integer.MAX_VALUE), -1);
    }

    private static void household(PeatShares x) {
        int[][] want = {{2, 0, 0, 2, 2, 15}, {3, 0, 0, 0, 0, 0}, {5, 4, 15, 1, 1, 26}};
        for (int household = 0; household < 3; household++) {
            int[] got = new int[6];
            for (int what = 0; what < 6; what++) {
                got[what] = x.household(household, what);
            }
            row("household(" + household + ", #)", got, want[household]);
        }
        checks.due("household(0, -1)", x.household(0, -1), -1);
        checks.due("household(0, 6)", x.household(0, 6), -1);
        checks.due("household(3, 0)", x.household(3, 0), -1);
        checks.due("household(-1, 0)", x.household(-1, 0), -1);
    }

    private static void bank(PeatShares x) {
        // The 15 turfs weighed 30 kg; the 4 turfs weigh 1206 g each, 5 kg together.
        int[][] want = {{100, 1000, 2, 958, 5, 52, 33, 19, 0}, {60, 200, 0, 160, 1, 28, 8, 0, 20}};
        for (int bank = 0; bank < 2; bank++) {
            int[] got = new int[9];
            for (int what = 0; what < 9; what++) {
                got[what] = x.bank(bank, what);
            }
            row("bank(" + bank + ", #)", got, want[bank]);
        }
        checks.due("bank(0, -1)", x.bank(0, -1), -1);
        checks.due("bank(0, 9)", x.bank(0, 9), -1);
        checks.due("bank(2, 0)", x.bank(2, 0), -1);
        checks.due("bank(-1, 0)", x.bank(-1, 0), -1);
    }

    private static void right(PeatShares x) {
        // Shares at bank 0: 200 / 7 = 28 and 500 / 7 = 71; the one left over goes to household 0.
        int[][] want = {{29, 7, 22}, {0, 0, 0}, {71, 30, 41}, {60, 8, 52}, {0, 0, 0}, {0, 0, 0}};
        for (int bank = 0; bank < 2; bank++) {
            for (int household = 0; household < 3; household++) {
                int[] got = {x.right(household, bank, 0), x.right(household, bank, 1), x.right(household, bank, 2)};
                row("right(" + household + ", " + bank + ", #)", got, want[bank * 3 + household]);
            }
        }
        checks.due("right(0, 0, -1)", x.right(0, 0, -1), -1);
        checks.due("right(0, 0, 3)", x.right(0, 0, 3), -1);
        checks.due("right(3, 0, 0)", x.right(3, 0, 0), -1);
        checks.due("right(-1, 0, 0)", x.right(-1, 0, 0), -1);
        checks.due("right(0, 2, 0)", x.right(0, 2, 0), -1);
        checks.due("right(0, -1, 0)", x.right(0, -1, 0), -1);
    }

    private static void stack(PeatShares x) {
        // Not turned: 85937, then 85937 * 55 / 64 = 73852.1 and 1500. Turned 3 times: 43750, then 19140 and 1500.
        int[][] want = {{0, 0, 7, 75352, 0, 1753, 0}, {2, 0, 26, 20640, 3, 1206, 1}, {0, 1, 8, 75352, 0, 1753, 0}};
        for (int stack = 0; stack < 3; stack++) {
            int[] got = new int[7];
            for (int what = 0; what < 7; what++) {
                got[what] = x.stack(stack, what);
            }
            row("stack(" + stack + ", #)", got, want[stack]);
        }
        checks.due("stack(0, -1)", x.stack(0, -1), -1);
        checks.due("stack(0, 7)", x.stack(0, 7), -1);
        checks.due("stack(3, 0)", x.stack(3, 0), -1);
        checks.due("stack(-1, 0)", x.stack(-1, 0), -1);
    }

    private static void shares(PeatShares x, int... want) {
        for (int i = 0; i < want.length; i++) {
            checks.due("right(" + i + ", 0, 0)", x.right(i, 0, 0), want[i]);
        }
    }

    private static void sharesWithLeftOver() {
        PeatShares x = new PeatShares();
        x.addBank(103, 100);
        for (int i = 0; i < 6; i++) {
            x.come(7);
        }
        shares(x, 0, 0, 0, 0, 0, 0);
        for (int i = 5; i >= 0; i--) {
            x.grant(i, 0, 1);
        }
        checks.due("bank(0, 4)", x.bank(0, 4), 63);
        // 103 = 6 * 17 + 1
        shares(x, 18, 17, 17, 17, 17, 17);
        x.setAllowance(0, 101);
        shares(x, 17, 17, 17, 17, 17, 16);
        x.grant(0, 0, 0);
        x.grant(3, 0, 0);
        // 101 = 4 * 25 + 1; the one left over goes to the first that has the right.
        shares(x, 0, 26, 25, 0, 25, 25);
        x.setAllowance(0, 103);
        shares(x, 0, 26, 26, 0, 26, 25);
    }

    private static void sharesFollow() {
        PeatShares x = new PeatShares();
        x.addBank(10, 100);
        x.come(1);
        x.come(9);
        x.grant(0, 0, 1);
        x.grant(1, 0, 1);
        shares(x, 1, 9);
        x.setSpades(1, 1);
        shares(x, 5, 5);
        x.setAllowance(0, 1);
        shares(x, 1, 0);
        x.setAllowance(0, 5);
        x.setSpades(1, 2);
        // 5 / 3 = 1 and 10 / 3 = 3
        shares(x, 2, 3);
        x.grant(0, 0, 0);
        shares(x, 0, 5);
    }

    private static void sharesAtTheEdges() {
        PeatShares x = new PeatShares();
        x.addBank(5000, 100);
        for (int i = 0; i < 6; i++) {
            x.come(9);
            x.grant(i, 0, 1);
        }
        shares(x, 834, 834, 833, 833, 833, 833);
        x.setAllowance(0, 0);
        shares(x, 0, 0, 0, 0, 0, 0);
        x.setAllowance(0, 4);
        shares(x, 1, 1, 1, 1, 0, 0);
        checks.due("right(5, 0, 2)", x.right(5, 0, 2), 0);
    }

    private static void edgeOfDry() {
        PeatShares x = new PeatShares();
        Checks.program(x, "house 1;bank 99 900;right 0 0;cut 0 0 9;turn 0;turn 0;day 6 1;day 7 0;day 9 1;");
        // 71875 + 1500, then 49298, then 28500 + 1500
        checks.due("stack(0, 3)", x.stack(0, 3), 30000);
        checks.due("stack(0, 6) at 30000", x.stack(0, 6), 1);
        checks.due("count(4)", x.count(4), 1);
        checks.due("stack(0, 5)", x.stack(0, 5), 1300);
        checks.due("dryIn(0, 0, 9) at 30000", x.dryIn(0, 0, 9), 0);
        x.cart(0, 2);
        checks.due("household(0, 1)", x.household(0, 1), 2);
        PeatShares y = new PeatShares();
        Checks.program(y, "house 1;bank 99 900;right 0 0;cut 0 0 9;turn 0;turn 0;turn 0;day 3 2;day 9 0;day 4 1;day 2 3;");
        // 81250 + 3000, then 36859, then 27644 + 1500, then 25501 + 4500
        checks.due("stack(0, 3)", y.stack(0, 3), 30001);
        checks.due("stack(0, 6) at 30001", y.stack(0, 6), 0);
        checks.due("count(4)", y.count(4), 0);
        checks.due("stack(0, 5)", y.stack(0, 5), 1300);
        checks.due("dryIn(0, 0, 0) at 30001", y.dryIn(0, 0, 0), -9);
        y.cart(0, 2);
        checks.due("household(0, 2)", y.household(0, 2), 2);
    }

    /** As many households, banks and stacks as there can be. */
    private static void fullParish() {
        PeatShares x = new PeatShares();
        for (int household = 0; household < 6; household++) {
            x.come(1);
        }
        for (int bank = 0; bank < 4; bank++) {
            x.addBank(600, 1000);
            for (int household = 0; household < 6; household++) {
                x.grant(household, bank, 1);
            }
        }
        for (int stack = 0; stack < 12; stack++) {
            checks.due("cut()", x.cut(stack % 6, stack % 4, stack + 1), stack);
        }
        x.day(9, 0);
        for (int household = 0; household < 6; household++) {
            checks.due("household(i, 3)", x.household(household, 3), 4);
            checks.due("household(i, 4)", x.household(household, 4), 2);
            checks.due("household(i, 5)", x.household(household, 5), 2 * household + 8);
            checks.due("right(i, 3, 0)", x.right(household, 3, 0), 100);
        }
        for (int bank = 0; bank < 4; bank++) {
            checks.due("bank(i, 4)", x.bank(bank, 4), 63);
            checks.due("bank(i, 6)", x.bank(bank, 6), 3 * bank + 15);
            checks.due("nextToCut(i)", x.nextToCut(bank), bank % 2 == 0 ? 1 : 0);
        }
        checks.due("count(4)", x.count(4), 0);
        checks.due("household(6, 0)", x.household(6, 0), -1);
        checks.due("bank(4, 0)", x.bank(4, 0), -1);
        checks.due("stack(12, 0)", x.stack(12, 0), -1);
        checks.due("cart(0, 1)", x.cart(0, 1), 2);
        checks.due("stack(10, 2), the last one", x.stack(10, 2), 12);
        checks.due("endYear()", x.endYear(), 77);
        for (int bank = 0; bank < 4; bank++) {
            checks.due("bank(i, 6)", x.bank(bank, 6), 0);
            checks.due("bank(i, 8)", x.bank(bank, 8), 3 * bank + (bank == 0 ? 14 : 15));
        }
    }
}
