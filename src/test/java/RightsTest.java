/** Promises 1 to 6: a new object, households, banks and rights. */
public final class RightsTest {
    private static final Checks checks = new Checks("RightsTest");

    public static void main(String[] args) {
        newObject();
        come();
        setSpades();
        addBank();
        setAllowance();
        grant();
        eachSuccessIsAnAction();
        checks.end();
    }

    private static void newObject() {
        PeatShares x = new PeatShares();
        for (int what = 0; what <= 9; what++) {
            checks.due("new: count(" + what + ")", x.count(what), 0);
        }
        checks.due("new: household(0, 0)", x.household(0, 0), -1);
        checks.due("new: bank(0, 0)", x.bank(0, 0), -1);
        checks.due("new: stack(0, 0)", x.stack(0, 0), -1);
        checks.due("new: right(0, 0, 0)", x.right(0, 0, 0), -1);
        checks.due("new: undo()", x.undo(), -2);
        checks.due("new: restore(0)", x.restore(0), -2);
        checks.due("new: restore(1)", x.restore(1), -2);
        checks.due("new: clearText()", x.clearText(), 0);
        PeatShares other = new PeatShares();
        x.come(1);
        checks.due("another object: count(1)", other.count(1), 0);
    }

    private static void come() {
        PeatShares x = new PeatShares();
        checks.due("come(0)", x.come(0), -1);
        checks.due("come(10)", x.come(10), -1);
        checks.due("come(MIN)", x.come(Integer.MIN_VALUE), -1);
        int[] spades = {1, 9, 5, 2, 3, 4};
        for (int i = 0; i < 6; i++) {
            checks.due("come(" + spades[i] + ")", x.come(spades[i]), i);
        }
        checks.due("come(1) as the seventh", x.come(1), -3);
        checks.due("come(0) as the seventh", x.come(0), -1);
        checks.due("count(1)", x.count(1), 6);
        for (int i = 0; i < 6; i++) {
            checks.due("household(i, 0)", x.household(i, 0), spades[i]);
            checks.due("household(i, 1)", x.household(i, 1), 0);
            checks.due("household(i, 2)", x.household(i, 2), 0);
            checks.due("household(i, 3)", x.household(i, 3), 0);
        }
    }

    private static void setSpades() {
        PeatShares x = new PeatShares();
        checks.due("setSpades(0, 1) of none", x.setSpades(0, 1), -1);
        x.come(4);
        x.come(6);
        checks.due("setSpades(1, 9)", x.setSpades(1, 9), 6);
        checks.due("setSpades(1, 1)", x.setSpades(1, 1), 9);
        checks.due("setSpades(1, 0)", x.setSpades(1, 0), -1);
        checks.due("setSpades(1, 10)", x.setSpades(1, 10), -1);
        checks.due("setSpades(2, 1)", x.setSpades(2, 1), -1);
        checks.due("setSpades(-1, 1)", x.setSpades(-1, 1), -1);
        checks.due("household(0, 0)", x.household(0, 0), 4);
        checks.due("household(1, 0)", x.household(1, 0), 1);
    }

    private static void addBank() {
        PeatShares x = new PeatShares();
        checks.due("addBank(-1, 100)", x.addBank(-1, 100), -1);
        checks.due("addBank(5001, 100)", x.addBank(5001, 100), -1);
        checks.due("addBank(0, 99)", x.addBank(0, 99), -1);
        checks.due("addBank(0, 3001)", x.addBank(0, 3001), -1);
        checks.due("addBank(0, 100)", x.addBank(0, 100), 0);
        checks.due("addBank(5000, 3000)", x.addBank(5000, 3000), 1);
        checks.due("addBank(7, 200)", x.addBank(7, 200), 2);
        checks.due("addBank(8, 300)", x.addBank(8, 300), 3);
        checks.due("addBank(8, 300) as the fifth", x.addBank(8, 300), -3);
        checks.due("addBank(8, 99) as the fifth", x.addBank(8, 99), -1);
        checks.due("count(2)", x.count(2), 4);
        checks.due("bank(1, 0)", x.bank(1, 0), 5000);
        checks.due("bank(1, 1)", x.bank(1, 1), 3000);
        checks.due("bank(0, 0)", x.bank(0, 0), 0);
        checks.due("bank(0, 1)", x.bank(0, 1), 100);
        for (int what = 4; what <= 8; what++) {
            checks.due("bank(3, " + what + ")", x.bank(3, what), 0);
        }
    }

    private static void setAllowance() {
        PeatShares x = new PeatShares();
        checks.due("setAllowance(0, 0) of none", x.setAllowance(0, 0), -1);
        x.addBank(10, 100);
        x.addBank(20, 100);
        checks.due("setAllowance(1, 5000)", x.setAllowance(1, 5000), 20);
        checks.due("setAllowance(1, 0)", x.setAllowance(1, 0), 5000);
        checks.due("setAllowance(1, -1)", x.setAllowance(1, -1), -1);
        checks.due("setAllowance(1, 5001)", x.setAllowance(1, 5001), -1);
        checks.due("setAllowance(2, 5)", x.setAllowance(2, 5), -1);
        checks.due("setAllowance(-1, 5)", x.setAllowance(-1, 5), -1);
        checks.due("bank(0, 0)", x.bank(0, 0), 10);
        checks.due("bank(1, 0)", x.bank(1, 0), 0);
    }

    private static void grant() {
        PeatShares x = new PeatShares();
        x.come(1);
        x.come(2);
        x.addBank(10, 100);
        x.addBank(10, 100);
        checks.due("grant(0, 0, 0) at first", x.grant(0, 0, 0), 0);
        checks.due("grant(1, 0, 1)", x.grant(1, 0, 1), 1);
        checks.due("grant(1, 0, 1) again", x.grant(1, 0, 1), 1);
        checks.due("grant(0, 0, 1)", x.grant(0, 0, 1), 2);
        checks.due("grant(0, 1, 1)", x.grant(0, 1, 1), 1);
        checks.due("grant(1, 0, 0)", x.grant(1, 0, 0), 1);
        checks.due("grant(0, 0, 2)", x.grant(0, 0, 2), -1);
        checks.due("grant(0, 0, -1)", x.grant(0, 0, -1), -1);
        checks.due("grant(2, 0, 1)", x.grant(2, 0, 1), -1);
        checks.due("grant(-1, 0, 1)", x.grant(-1, 0, 1), -1);
        checks.due("grant(0, 2, 1)", x.grant(0, 2, 1), -1);
        checks.due("grant(0, -1, 1)", x.grant(0, -1, 1), -1);
        checks.due("bank(0, 4)", x.bank(0, 4), 1);
        checks.due("bank(1, 4)", x.bank(1, 4), 1);
    }

    private static void eachSuccessIsAnAction() {
        PeatShares x = new PeatShares();
        x.come(3);
        checks.due("count(8) after come", x.count(8), 1);
        x.setSpades(0, 3);
        checks.due("count(8) after setSpades", x.count(8), 2);
        x.addBank(1, 100);
        checks.due("count(8) after addBank", x.count(8), 3);
        x.setAllowance(0, 1);
        checks.due("count(8) after setAllowance", x.count(8), 4);
        x.grant(0, 0, 0);
        checks.due("count(8) after grant", x.count(8), 5);
        x.undo();
        x.come(0);
        x.setSpades(1, 3);
        x.addBank(-1, 1);
        x.setAllowance(4, 1);
        x.grant(0, 4, 1);
        checks.due("count(8) after errors", x.count(8), 4);
    }
}
