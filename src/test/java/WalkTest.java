import java.util.Arrays;
import java.util.HashMap;
import java.util.Map;
import java.util.TreeSet;

/** Walks of calls with numbers that come from a fixed rule, compared with the model call by call. */
public final class WalkTest {
    private static final int WALKS = 400;
    private static final int CALLS = 512;
    private static final String[] ACTIONS = {
        "come", "setSpades", "addBank", "setAllowance", "grant", "repair", "endYear", "take", "restore", "undo",
        "cut", "cut", "cut", "cut", "cut", "cut", "cut", "turn", "turn", "turn", "join", "join", "join", "join",
        "cart", "cart", "cart", "day", "day", "day", "day",
    };
    private static final String[] LOOKS = {
        "count", "household", "bank", "right", "stack", "dryIn", "cartLoad", "carts", "worth", "nextToCut",
    };
    private static final int[] EXTREMES = {
        Integer.MIN_VALUE, Integer.MAX_VALUE, -1, -2, 0, 10, 100, 256, 1001, 5001, 2000000001,
    };
    private static final String[] SCRAPS = {
        ";", " ", "  ", "007", "12345", "x", "A", "\u00e9", "\t", "0", "01", "house", "turn 0", "day 1", "-1", "houses 1;", ";;",
    };

    private final Checks checks = new Checks("WalkTest");
    private final Map<String, Integer> good = new HashMap<>();
    private long seed;
    private PeatShares x;
    private Model model;
    private int walk;
    private int callsLeft;

    public static void main(String[] args) {
        new WalkTest().walkAll();
    }

    private void walkAll() {
        for (walk = 0; walk < WALKS && checks.allRight(); walk++) {
            seed = walk * 7919L + 17;
            x = new PeatShares();
            model = new Model();
            callsLeft = CALLS;
            begin();
            while (callsLeft > 0 && checks.allRight()) {
                step();
            }
        }
        // A walk that meets no success of a call says nothing about it.
        for (String name : new TreeSet<>(Arrays.asList(ACTIONS))) {
            checks.due("calls of " + name + " that succeeded are many", good.getOrDefault(name, 0) > WALKS ? 1 : 0, 1);
        }
        checks.due("programs that ran are many", good.getOrDefault("run", 0) > WALKS / 2 ? 1 : 0, 1);
        checks.end();
    }

    private int next(int bound) {
        seed = seed * 6364136223846793005L + 1442695040888963407L;
        return (int) ((seed >>> 33) % bound);
    }

    private int between(int least, int most) {
        return least + next(most - least + 1);
    }

    private void begin() {
        int households = next(8) == 0 ? next(7) : between(1, 6);
        for (int i = 0; i < households; i++) both("come", between(1, 9), 0, 0);
        int banks = next(8) == 0 ? next(5) : between(1, 4);
        for (int i = 0; i < banks; i++) both("addBank", allowance(), between(100, next(2) == 0 ? 300 : 3000), 0);
        for (int i = 0; i < households * banks; i++) both("grant", i % households, i / households, next(4) == 0 ? 0 : 1);
    }

    private int allowance() {
        return next(3) == 0 ? between(0, 50) : between(0, 5000);
    }

    private void step() {
        int kind = next(100);
        if (kind < 50) action(ACTIONS[next(ACTIONS.length)]);
        else if (kind < 51) program();
        else if (kind < 53) both(ACTIONS[next(ACTIONS.length)], extreme(), extreme(), extreme());
        else if (kind < 55) both(LOOKS[next(LOOKS.length)], extreme(), extreme(), extreme());
        else look(LOOKS[next(LOOKS.length)]);
    }

    private int extreme() {
        return next(2) == 0 ? next(3) : EXTREMES[next(EXTREMES.length)];
    }

    private void action(String name) {
        int stacks = model.call("count", 3, 0, 0);
        int stack = stacks == 0 ? 0 : between(0, stacks - (next(10) == 0 ? 0 : 1));
        switch (name) {
            case "come": both(name, between(1, 9), 0, 0); break;
            case "setSpades": both(name, next(6), between(1, 9), 0); break;
            case "addBank": both(name, allowance(), between(100, 3000), 0); break;
            case "setAllowance": both(name, next(4), allowance(), 0); break;
            case "grant": both(name, next(6), next(4), next(4) == 0 ? 0 : 1); break;
            case "cut": cut(); break;
            case "turn": both(name, stack, 0, 0); break;
            case "join": join(stack, stacks); break;
            case "cart": cart(stack); break;
            case "repair": both(name, next(4), 0, 0); break;
            case "day": both(name, between(0, 9), next(2) == 0 ? 0 : next(10), 0); break;
            case "endYear": case "restore": if (next(4) == 0) both(name, next(2), 0, 0); break;
            default: both(name, next(2), 0, 0); break;
        }
    }

    private void cut() {
        int household = next(6);
        int bank = next(4);
        for (int i = 0; i < 10 && model.call("right", household, bank, 2) <= 0; i++) {
            household = next(6);
            bank = next(4);
        }
        int may = model.call("right", household, bank, 2);
        int turfs = Math.max(1, Math.min(may, 1000));
        if (next(6) == 0) turfs = may + next(2);
        else if (next(6) == 0) turfs = between(1, 1001);
        else if (next(4) > 0) turfs = between(1, turfs);
        both("cut", household, bank, turfs);
    }

    /** Looks for two stacks that can be joined, most times. */
    private void join(int one, int stacks) {
        int other = next(12);
        for (int i = 0; i < stacks && next(5) > 0; i++) {
            boolean same = model.call("stack", i, 0, 0) == model.call("stack", one, 0, 0)
                && model.call("stack", i, 1, 0) == model.call("stack", one, 1, 0);
            if (i != one && same) other = i;
        }
        both("join", one, other, 0);
    }

    private void cart(int stack) {
        int most = model.call("cartLoad", stack, 0, 0);
        int turfs = next(3) == 0 ? most + next(2) : between(1, Math.max(1, next(4) == 0 ? 1000 : most));
        both("cart", stack, turfs, 0);
    }

    private void look(String name) {
        switch (name) {
            case "count": both(name, between(-1, 10), 0, 0); break;
            case "household": both(name, between(-1, 6), between(-1, 6), 0); break;
            case "bank": both(name, between(-1, 4), between(-1, 9), 0); break;
            case "right": both(name, between(-1, 6), between(-1, 4), between(-1, 3)); break;
            case "stack": both(name, between(-1, 12), between(-1, 7), 0); break;
            case "dryIn": both(name, between(-1, 12), between(-1, 10), next(2) == 0 ? next(2) : between(-1, 10)); break;
            case "worth": both(name, between(-1, 6), next(2) == 0 ? between(0, 5000000) : between(-1, 2000000000), 0); break;
            default: both(name, between(-1, 12), 0, 0); break;
        }
    }

    private void program() {
        StringBuilder text = new StringBuilder();
        int commands = next(6);
        for (int i = 0; i < commands; i++) {
            text.append(command());
        }
        if (next(3) == 0) {
            text.insert(next(text.length() + 1), SCRAPS[next(SCRAPS.length)]);
        }
        if (next(10) == 0 && text.length() > 0) {
            text.setLength(next(text.length()));
        }
        if (text.length() + 2 > callsLeft) {
            return;
        }
        for (int i = 0; i < text.length(); i++) {
            both("append", text.charAt(i), 0, 0);
        }
        both("run", 0, 0, 0);
        if (next(2) == 0) {
            both("clearText", 0, 0, 0);
        }
    }

    private String command() {
        String gap = next(4) == 0 ? "  " : " ";
        switch (next(9)) {
            case 0: return "house" + gap + between(1, 9) + ";";
            case 1: return "bank " + between(0, 5000) + gap + between(100, 3000) + " ;";
            case 2: case 3: return "right" + next(6) + gap + next(4) + ";";
            case 4: case 5: return "cut " + next(6) + gap + next(4) + " " + between(1, 30) + ";";
            case 6: return gap + "turn" + next(3) + ";";
            case 7: return "cart " + next(3) + gap + between(1, 10) + ";";
            default: return "day" + gap + next(10) + " " + next(10) + ";";
        }
    }

    private void both(String name, int a, int b, int c) {
        int due = model.call(name, a, b, c);
        int got = Calls.answer(x, name, a, b, c);
        callsLeft--;
        if (due >= 0) {
            good.merge(name, 1, Integer::sum);
        }
        checks.due("walk " + walk + ", " + name + "(" + a + ", " + b + ", " + c + ")", got, due);
    }
}
