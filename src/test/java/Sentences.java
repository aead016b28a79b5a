import java.io.IOException;
import java.nio.file.Files;
import java.nio.file.Path;
import java.util.ArrayList;
import java.util.HashMap;
import java.util.LinkedHashSet;
import java.util.List;
import java.util.Map;
import java.util.Set;

/**
 * The document's sentences, each with the runs of calls that would show it broken.
 * A sentence that has no test, and a test whose sentence isn't in the document, are wrong too.
 */
final class Sentences {
    /** Something of everything, room for more, four states in the history, a snapshot, and a text that fails. */
    static final String SOME = "come(2) come(5) addBank(700,500) addBank(90,3000)"
        + " grant(0,0,1) grant(1,0,1) grant(1,1,1) cut(0,0,100) cut(1,1,30) cut(1,0,60) turn(1) day(7,1) cart(0,40)"
        + " endYear() take(0) cut(1,1,40) cut(0,0,33) cut(1,0,50) cart(2,9) turn(0) turn(0) day(9,2) turn(0) undo()"
        + " 'turn 0; x'";
    /** As much of everything as there can be. */
    static final String FULL = full();

    private static final String[] LEFT_OUT = {"PeatShares", "The public face", "Not promised"};

    private final Checks checks = new Checks("SentenceTest");
    private final Set<String> all = new LinkedHashSet<>();
    private final Set<String> untold = new LinkedHashSet<>();
    private final Map<String, String> portraits = new HashMap<>();
    private String section = "";
    private String sentence = "";

    Sentences(Path document) throws IOException {
        boolean isLeftOut = true;
        String heading = "";
        for (String line : Files.readAllLines(document)) {
            if (line.startsWith("#")) {
                heading = line.replaceFirst("^#+ ", "").replaceFirst("^(Promise \\d+):.*", "$1");
                isLeftOut = List.of(LEFT_OUT).contains(heading);
            } else if (!isLeftOut) {
                for (String part : parts(line)) {
                    all.add(key(heading, part));
                }
            }
        }
        untold.addAll(all);
        checks.due("there are sentences in " + document, all.size() > 100 ? 1 : 0, 1);
    }

    private static List<String> parts(String line) {
        List<String> found = new ArrayList<>();
        String plain = line.trim().replaceAll(" +", " ");
        if (plain.isEmpty() || plain.startsWith("```") || plain.startsWith("Ahead of the calls")) {
            return found;
        }
        String end = plain.startsWith("Returns") ? "; " : "(?<=\\.) (?=\\w)";
        for (String part : plain.split(end)) {
            found.add(part.replaceFirst("\\.$", ""));
        }
        return found;
    }

    private static String key(String section, String sentence) {
        return section + " | " + sentence;
    }

    private static String full() {
        StringBuilder calls = new StringBuilder("come(1)*6 addBank(600,1000)*4");
        for (int i = 0; i < 24; i++) {
            calls.append(" grant(" + i % 6 + "," + i / 6 + ",1)");
        }
        for (int i = 0; i < 12; i++) {
            calls.append(" cut(" + i % 6 + "," + i % 4 + "," + (i + 1) + ")");
        }
        return calls.append(" day(3,1) take(0) turn(4) take(1) turn(0) turn(0) turn(0) 'turn 1;'*20").toString();
    }

    /** The section that the next sentences stand in. */
    void in(String heading) {
        section = heading;
    }

    /** The sentence that the next runs are for. */
    void says(String words) {
        sentence = words;
        String key = key(section, words);
        checks.due("the document says: " + key, all.contains(key) ? 1 : 0, 1);
        untold.remove(key);
    }

    /** A sentence that names nothing that a run of calls could show. */
    void saysBesides(String words) {
        says(words);
    }

    void equal(String what, long got, long want) {
        checks.due(key(section, sentence) + ": " + what, got, want);
    }

    private void isTrue(String what, boolean holds) {
        equal(what, holds ? 1 : 0, 1);
    }

    /** Each text is a run of calls on an object of its own. */
    void due(String... runs) {
        for (String run : runs) {
            String wrong = Calls.play(new PeatShares(), run);
            isTrue(run + ": " + wrong, wrong.isEmpty());
        }
    }

    /** Each of these calls, told with its error code, is refused after this scene and changes nothing. */
    void refused(String scene, String... calls) {
        for (String call : calls) {
            isTrue(call + " is an error", call.matches(".*=-([123]|1\\d\\d\\d)"));
            still(scene, call);
        }
    }

    /** Each of these calls changes nothing. */
    void still(String scene, String... calls) {
        for (String call : calls) {
            String run = scene + " " + call;
            due(run);
            isTrue("nothing is changed by " + run, portrait(run).equals(portrait(scene)));
        }
    }

    /** The number in the place of # may be from least to most, and nothing else. */
    void range(String scene, String call, int least, int most) {
        for (int number : new int[] {least, most}) {
            String inside = call.replace("#", "" + number);
            isTrue(scene + " " + inside + " is in range", Calls.call(played(scene), inside) != -1);
        }
        long[] outside = {
            least - 1L, most + 1L, Integer.MIN_VALUE, Integer.MAX_VALUE, least + 256L, least + 65536L, -1000L - most,
        };
        for (long number : outside) {
            if (number < least || number > most) {
                refused(scene, call.replace("#", "" + number) + "=-1");
            }
        }
    }

    /** After this scene, whose history has room, the call records one state, and undo() makes all as it was. */
    void action(String scene, String call) {
        String run = scene + " " + call;
        due(run);
        equal("the states after " + run, played(run).count(8), played(scene).count(8) + 1);
        same(scene, run + " undo()");
    }

    /** Both runs leave the same behind them. */
    void same(String one, String other) {
        due(one, other);
        isTrue("the same is left by " + one + " and by " + other, portrait(one).equals(portrait(other)));
    }

    /** What can be seen is the same after both runs, but for the text and the history. */
    void looksTheSame(String one, String other) {
        due(one, other);
        isTrue("the same is seen after " + one + " and after " + other,
            Checks.seen(played(one)).equals(Checks.seen(played(other))));
    }

    private static PeatShares played(String calls) {
        PeatShares x = new PeatShares();
        Calls.play(x, calls);
        return x;
    }

    /** All that can be seen after some calls, also when states are undone, snapshots restored, and the text run. */
    private String portrait(String calls) {
        String known = portraits.get(calls);
        if (known == null) {
            known = draw(calls);
            portraits.put(calls, known);
        }
        return known;
    }

    private static String draw(String calls) {
        PeatShares run = played(calls);
        StringBuilder drawn = new StringBuilder("run ").append(run.run()).append(' ').append(Checks.whole(run));
        for (int undone = 0; undone <= 5; undone++) {
            for (int slot = -1; slot <= 1; slot++) {
                PeatShares x = played(calls);
                drawn.append("\n\n").append(slot).append(" undone");
                for (int i = 0; i < undone; i++) {
                    drawn.append(' ').append(x.undo());
                }
                drawn.append(" restored ").append(slot < 0 ? 0 : x.restore(slot)).append('\n').append(Checks.whole(x));
            }
        }
        return drawn.toString();
    }

    void end() {
        for (String key : untold) {
            checks.due("no test for: " + key, 1, 0);
        }
        checks.end();
    }
}
