import java.lang.reflect.Method;
import java.util.HashMap;
import java.util.Map;

/**
 * Calls that are told as texts: "come(3)=0 'turn 0;' run()=-1000 day(9,0)*4".
 * A call with "=" must give this answer, and one without it must not give an error code;
 * a text in quotes is appended; "*4" makes a call, or appends a text, four times.
 */
final class Calls {
    private static final Map<String, Integer> PARAMETERS = parameters();

    private final PeatShares x;
    private final String text;
    private int place = 0;
    private String name;
    private final int[] numbers = new int[3];

    private Calls(PeatShares x, String text) {
        this.x = x;
        this.text = text;
    }

    /** Makes the calls; answers what was not as due, or an empty text. */
    static String play(PeatShares x, String text) {
        Calls calls = new Calls(x, text);
        StringBuilder wrong = new StringBuilder();
        while (calls.hasNext()) {
            calls.playNext(wrong);
        }
        return wrong.toString();
    }

    /** Makes one call that is told without its answer. */
    static int call(PeatShares x, String text) {
        Calls calls = new Calls(x, text);
        calls.readCall();
        return calls.answerOfCall();
    }

    private static Map<String, Integer> parameters() {
        Map<String, Integer> numbers = new HashMap<>();
        for (Method method : PeatShares.class.getDeclaredMethods()) {
            numbers.put(method.getName(), method.getParameterCount());
        }
        return numbers;
    }

    private boolean hasNext() {
        while (place < text.length() && text.charAt(place) == ' ') {
            place++;
        }
        return place < text.length();
    }

    private void playNext(StringBuilder wrong) {
        int start = place;
        String characters = text.charAt(place) == '\'' ? readCharacters() : null;
        if (characters == null) {
            readCall();
        }
        boolean isDue = isNext('=');
        int due = isDue ? readNumber() : 0;
        int times = isNext('*') ? readNumber() : 1;
        String told = text.substring(start, place);
        for (int i = 0; i < times; i++) {
            int got = characters == null ? answerOfCall() : append(characters);
            if (isDue ? got != due : got < 0) {
                wrong.append(told).append(" answered ").append(got).append("; ");
            }
        }
    }

    private int answerOfCall() {
        return answer(x, name, numbers[0], numbers[1], numbers[2]);
    }

    private int append(String characters) {
        int answer = 0;
        for (int i = 0; i < characters.length() && answer >= 0; i++) {
            answer = x.append(characters.charAt(i));
        }
        return answer;
    }

    private String readCharacters() {
        int end = text.indexOf('\'', place + 1);
        String characters = text.substring(place + 1, end);
        place = end + 1;
        return characters;
    }

    private void readCall() {
        int open = text.indexOf('(', place);
        int close = text.indexOf(')', open);
        name = text.substring(place, open);
        String inside = text.substring(open + 1, close);
        String[] parts = inside.isEmpty() ? new String[0] : inside.split(",");
        if (parts.length != PARAMETERS.getOrDefault(name, -1)) {
            throw new IllegalArgumentException("no such call: " + text.substring(place, close + 1));
        }
        for (int i = 0; i < numbers.length; i++) {
            numbers[i] = i < parts.length ? Integer.parseInt(parts[i]) : 0;
        }
        place = close + 1;
    }

    private boolean isNext(char sign) {
        return place < text.length() && text.charAt(place) == sign;
    }

    /** Reads the number behind a sign. */
    private int readNumber() {
        int start = place + 1;
        place = start;
        while (place < text.length() && "-0123456789".indexOf(text.charAt(place)) >= 0) {
            place++;
        }
        return Integer.parseInt(text.substring(start, place));
    }

    /** The answer of the call with this name; numbers that it doesn't take are not looked at. */
    static int answer(PeatShares x, String name, int a, int b, int c) {
        switch (name) {
            case "come": return x.come(a);
            case "setSpades": return x.setSpades(a, b);
            case "addBank": return x.addBank(a, b);
            case "setAllowance": return x.setAllowance(a, b);
            case "grant": return x.grant(a, b, c);
            case "cut": return x.cut(a, b, c);
            case "turn": return x.turn(a);
            case "join": return x.join(a, b);
            case "cart": return x.cart(a, b);
            case "repair": return x.repair(a);
            case "day": return x.day(a, b);
            case "endYear": return x.endYear();
            case "take": return x.take(a);
            case "restore": return x.restore(a);
            case "undo": return x.undo();
            case "append": return x.append(a);
            case "clearText": return x.clearText();
            case "run": return x.run();
            case "count": return x.count(a);
            case "household": return x.household(a, b);
            case "bank": return x.bank(a, b);
            case "right": return x.right(a, b, c);
            case "stack": return x.stack(a, b);
            case "dryIn": return x.dryIn(a, b, c);
            case "cartLoad": return x.cartLoad(a);
            case "carts": return x.carts(a);
            case "worth": return x.worth(a, b);
            case "nextToCut": return x.nextToCut(a);
            default: throw new IllegalArgumentException(name);
        }
    }
}
