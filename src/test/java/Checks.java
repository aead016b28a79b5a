/** Counts and prints answers that are not as due. */
final class Checks {
    private final String name;
    private int made = 0;
    private int wrong = 0;

    Checks(String name) {
        this.name = name;
    }

    void due(String call, long got, long want) {
        made++;
        if (got != want) {
            wrong++;
            System.out.println(name + ": " + call + " answered " + got + ", due is " + want);
        }
    }

    boolean allRight() {
        return wrong == 0;
    }

    /** Ends the test, with exit code 1 if an answer was wrong or none was looked at. */
    void end() {
        System.out.println(name + ": " + made + " answers, " + wrong + " not as due");
        if (wrong != 0 || made == 0) {
            System.exit(1);
        }
    }

    static void write(PeatShares x, String text) {
        for (int i = 0; i < text.length(); i++) {
            x.append(text.charAt(i));
        }
    }

    /** Runs a program on an object, in place of the text that it has. */
    static int program(PeatShares x, String text) {
        x.clearText();
        write(x, text);
        return x.run();
    }

    /**
     * All that can be seen of an object, but for the length of its text and its history.
     * Only what exists is looked at, as an object bears no more than 512 calls.
     */
    static String seen(PeatShares x) {
        StringBuilder all = new StringBuilder();
        for (int what = 0; what <= 7; what++) {
            all.append(x.count(what)).append(' ');
        }
        int households = x.count(1);
        for (int household = 0; household < households; household++) {
            all.append("\nhousehold");
            for (int what = 0; what <= 5; what++) {
                all.append(' ').append(x.household(household, what));
            }
        }
        int banks = x.count(2);
        for (int bank = 0; bank < banks; bank++) {
            seeBank(x, bank, households, all);
        }
        int stacks = x.count(3);
        for (int stack = 0; stack < stacks; stack++) {
            all.append("\nstack");
            for (int what = 0; what <= 6; what++) {
                all.append(' ').append(x.stack(stack, what));
            }
        }
        return all.toString();
    }

    private static void seeBank(PeatShares x, int bank, int households, StringBuilder all) {
        all.append("\nbank");
        for (int what = 0; what <= 8; what++) {
            all.append(' ').append(x.bank(bank, what));
        }
        for (int household = 0; household < households; household++) {
            all.append(" |");
            for (int what = 0; what <= 2; what++) {
                all.append(' ').append(x.right(household, bank, what));
            }
        }
    }

    /** All that can be seen of an object. */
    static String whole(PeatShares x) {
        return seen(x) + "\nhistory " + x.count(8) + " text " + x.count(9);
    }
}
