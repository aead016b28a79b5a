/** Promises 14 to 16: snapshots and undo. */
public final class SnapshotTest {
    private static final Checks checks = new Checks("SnapshotTest");

    public static void main(String[] args) {
        take();
        restore();
        restoreKeepsTheRest();
        slotsAreApart();
        undo();
        undoOfEachAction();
        undoOfSnapshots();
        sixthStateDropsTheOldest();
        errorsChangeNothing();
        checks.end();
    }

    /** Something of everything: two households, two banks, stacks, sheds, wear, a wet day, a second year. */
    private static PeatShares parish() {
        PeatShares x = new PeatShares();
        Checks.program(x, "house 2;house 5;bank 700 500;bank 90 3000;right 0 0;right 1 0;right 1 1;");
        Checks.program(x, "cut 0 0 100;cut 1 1 30;cut 1 0 60;turn 1;day 7 1;cart 0 50;");
        x.endYear();
        Checks.program(x, "cut 1 1 40;cut 0 0 33;cut 1 0 50;turn 0;turn 0;day 9 0;day 9 2;cart 2 9;");
        return x;
    }

    private static void same(String what, String got, String want) {
        checks.due(what + " is as it was", got.equals(want) ? 1 : 0, 1);
    }

    private static void take() {
        PeatShares x = parish();
        checks.due("count(7) at first", x.count(7), 0);
        checks.due("take(-1)", x.take(-1), -1);
        checks.due("take(2)", x.take(2), -1);
        checks.due("take(1)", x.take(1), 1);
        checks.due("count(7)", x.count(7), 1);
        x.endYear();
        checks.due("take(1) in place of one", x.take(1), 2);
        checks.due("count(7)", x.count(7), 1);
        checks.due("take(0)", x.take(0), 2);
        checks.due("count(7)", x.count(7), 2);
        x.endYear();
        checks.due("restore(1)", x.restore(1), 2);
    }

    private static void restore() {
        PeatShares x = parish();
        checks.due("restore(-1)", x.restore(-1), -1);
        checks.due("restore(2)", x.restore(2), -1);
        checks.due("restore(0)", x.restore(0), -2);
        x.take(0);
        checks.due("restore(1)", x.restore(1), -2);
        String then = Checks.seen(x);
        changeAll(x);
        checks.due("restore(0)", x.restore(0), 1);
        same("all", Checks.seen(x), then);
        changeAll(x);
        checks.due("restore(0) again", x.restore(0), 1);
        same("all", Checks.seen(x), then);
        checks.due("stack(0, 4)", x.stack(0, 4), 2);
        checks.due("count(6)", x.count(6), 3);
        checks.due("count(5)", x.count(5), 2);
        checks.due("right(0, 0, 1)", x.right(0, 0, 1), 33);
    }

    private static void changeAll(PeatShares x) {
        x.come(9);
        x.setSpades(0, 7);
        x.setAllowance(0, 5000);
        x.addBank(3, 333);
        x.grant(0, 1, 1);
        x.cut(0, 0, 1);
        x.turn(1);
        x.join(3, 1);
        x.cart(0, 10);
        x.repair(0);
        x.day(9, 5);
        x.cart(0, 1);
        x.endYear();
        x.cut(0, 0, 500);
        x.day(8, 1);
    }

    private static void restoreKeepsTheRest() {
        PeatShares x = parish();
        x.take(0);
        x.endYear();
        x.take(1);
        Checks.write(x, "turn 0;");
        int history = x.count(8);
        checks.due("count(8)", history, 5);
        x.undo();
        x.take(1);
        x.undo();
        x.undo();
        checks.due("count(8)", x.count(8), 3);
        x.restore(0);
        checks.due("count(9), the text stays", x.count(9), 7);
        checks.due("count(8), one state more", x.count(8), 4);
        checks.due("count(7)", x.count(7), 1);
    }

    private static void slotsAreApart() {
        PeatShares x = new PeatShares();
        x.come(1);
        x.take(0);
        x.come(2);
        x.take(1);
        x.come(3);
        x.restore(0);
        checks.due("count(1) of slot 0", x.count(1), 1);
        checks.due("count(7)", x.count(7), 2);
        x.setSpades(0, 8);
        x.restore(1);
        checks.due("count(1) of slot 1", x.count(1), 2);
        checks.due("household(0, 0)", x.household(0, 0), 1);
        x.setSpades(0, 7);
        x.restore(1);
        checks.due("household(0, 0) of slot 1", x.household(0, 0), 1);
        x.restore(0);
        checks.due("come(4) after the second has gone", x.come(4), 1);
        checks.due("household(1, 0)", x.household(1, 0), 4);
    }

    private static void undo() {
        PeatShares x = new PeatShares();
        checks.due("undo() at first", x.undo(), -2);
        String empty = Checks.whole(x);
        x.come(3);
        checks.due("undo()", x.undo(), 0);
        same("all", Checks.whole(x), empty);
        checks.due("undo() again", x.undo(), -2);
        x.come(3);
        x.come(4);
        Checks.write(x, "abc");
        checks.due("undo()", x.undo(), 1);
        checks.due("count(1)", x.count(1), 1);
        checks.due("count(9), the text stays", x.count(9), 3);
        checks.due("come(5)", x.come(5), 1);
        checks.due("undo()", x.undo(), 1);
        checks.due("undo()", x.undo(), 0);
        checks.due("count(1)", x.count(1), 0);
        checks.due("count(9)", x.count(9), 3);
    }

    private static void undoOfEachAction() {
        for (int action = 0; action < 15; action++) {
            PeatShares x = parish();
            x.cut(1, 0, 17);
            x.take(0);
            x.turn(3);
            if (action == 14) {
                Checks.write(x, "turn 0;");
            }
            String before = Checks.seen(x);
            int states = x.count(8);
            checks.due("action " + action + " succeeds", act(x, action) >= 0 ? 1 : 0, 1);
            checks.due("action " + action + " records a state", x.count(8), Math.min(5, states + 1));
            checks.due("undo() of action " + action, x.undo(), Math.min(4, states));
            same("all before action " + action, Checks.seen(x), before);
        }
    }

    private static int act(PeatShares x, int action) {
        switch (action) {
            case 0: return x.come(8);
            case 1: return x.setSpades(1, 8);
            case 2: return x.addBank(444, 555);
            case 3: return x.setAllowance(0, 999);
            case 4: return x.grant(0, 1, 1);
            case 5: return x.cut(1, 0, 12);
            case 6: return x.turn(1);
            case 7: return x.join(3, 2);
            case 8: return x.cart(2, 11);
            case 9: return x.repair(0);
            case 10: return x.day(9, 9);
            case 11: return x.endYear();
            case 12: return x.take(1);
            case 13: return x.restore(0);
            default: return x.run();
        }
    }

    private static void undoOfSnapshots() {
        PeatShares x = new PeatShares();
        x.come(1);
        x.take(0);
        x.undo();
        checks.due("restore(0) of a slot that is empty again", x.restore(0), -2);
        checks.due("count(7)", x.count(7), 0);
        x.take(0);
        x.come(2);
        x.take(0);
        x.undo();
        x.restore(0);
        checks.due("count(1) of the earlier snapshot", x.count(1), 1);
        x.undo();
        checks.due("count(1) before restore", x.count(1), 2);
    }

    private static void sixthStateDropsTheOldest() {
        PeatShares x = new PeatShares();
        x.come(1);
        for (int spades = 2; spades <= 7; spades++) {
            x.setSpades(0, spades);
        }
        checks.due("count(8)", x.count(8), 5);
        for (int left = 4; left >= 0; left--) {
            checks.due("undo()", x.undo(), left);
            checks.due("household(0, 0)", x.household(0, 0), left + 2);
        }
        checks.due("undo()", x.undo(), -2);
        x.setSpades(0, 9);
        checks.due("undo()", x.undo(), 0);
        checks.due("household(0, 0)", x.household(0, 0), 2);
    }

    private static void errorsChangeNothing() {
        PeatShares x = parish();
        x.take(1);
        Checks.write(x, "turn 0; turn 9;");
        String before = Checks.whole(x);
        int[] answers = {
            x.come(0), x.setSpades(0, 0), x.addBank(0, 0), x.setAllowance(0, -1), x.grant(0, 0, 2), x.cut(0, 0, 0),
            x.cut(0, 0, 1000), x.turn(9), x.join(0, 1), x.join(1, 1), x.cart(0, 0), x.cart(0, 1000), x.repair(2),
            x.day(0, 10), x.take(2), x.restore(0), x.restore(2), x.append(0), x.run(), x.count(10), x.household(0, 6),
            x.bank(0, 9), x.right(0, 0, 3), x.stack(0, 7), x.dryIn(0, 0, 10), x.cartLoad(9), x.carts(9), x.worth(0, -1),
            x.nextToCut(2),
        };
        for (int i = 0; i < answers.length; i++) {
            checks.due("error " + i + " is one", answers[i] < 0 ? 1 : 0, 1);
        }
        same("all", Checks.whole(x), before);
    }
}
