import java.lang.reflect.Method;
import java.util.ArrayList;
import java.util.HashMap;
import java.util.List;
import java.util.Map;
import java.util.Set;

/**
 * A run of calls on a new object, told in rows: "thing 0 1 3 4 = 0", "thing 2 0 0 0 = BAD", "8* thing 0 0 1 1",
 * "tape all swaps" (feeds a text), "reads 1 all swaps" (what a sheet holds). Each call that is refused is also
 * looked at for having changed nothing.
 */
final class Run {
    /** Behind the 512th call of an object nothing is promised. */
    private static final int MOST_CALLS = 512;
    private static final Map<String, Integer> NAMES = Map.ofEntries(Map.entry("NONE", -1), Map.entry("BAD", -2),
        Map.entry("STATE", -3), Map.entry("FULL", -4), Map.entry("LOOP", -5), Map.entry("NOTHING", -11),
        Map.entry("OUTSIDE", -12), Map.entry("SORT", -13), Map.entry("SIZE", -14),
        Map.entry("MIN", Integer.MIN_VALUE), Map.entry("MAX", Integer.MAX_VALUE));
    private static final Set<String> REFUSALS = Set.of("NONE", "BAD", "STATE", "FULL", "NOTHING", "OUTSIDE", "SORT", "SIZE");
    private static final Map<String, Method> CALLS = calls();

    private final Checks checks;
    private final String sentence;
    private final LayeredRules x = new LayeredRules();
    private final List<String> changes = new ArrayList<>();
    private int made = 0;
    private String whole = null;

    private Run(Checks checks, String sentence) {
        this.checks = checks;
        this.sentence = sentence;
    }

    /** The sentence is that of the document which the rows hold to. */
    static void of(Checks checks, String sentence, String... rows) {
        Run run = new Run(checks, sentence);
        for (String row : rows) {
            run.row(row);
        }
        checks.that(sentence + ": within 512 calls", run.made <= MOST_CALLS);
    }

    /** Several runs' rows as one: a scene, and what is done there. */
    static String[] rows(String[] scene, String... more) {
        String[] all = new String[scene.length + more.length];
        System.arraycopy(scene, 0, all, 0, scene.length);
        System.arraycopy(more, 0, all, scene.length, more.length);
        return all;
    }

    private static Map<String, Method> calls() {
        Map<String, Method> all = new HashMap<>();
        for (Method m : LayeredRules.class.getDeclaredMethods()) {
            all.put(m.getName(), m);
        }
        return all;
    }

    private void row(String row) {
        if (row.startsWith("reads ")) {
            String due = row.substring(8);
            int s = row.charAt(6) - '0';
            made += due.length() + 1;
            checks.that(sentence + ": " + row, Checks.sheet(x, s, due.length()).equals(due) && x.item(s, due.length()) == -12);
            return;
        }
        String[] parts = row.startsWith("tape ") ? new String[] {row} : row.split(" = ");
        String due = parts.length > 1 ? parts[1].trim() : "";
        made += costs(parts[0]);
        int got = play(x, parts[0]);
        if (!due.isEmpty()) {
            checks.due(sentence + ": " + String.join(", ", changes) + ", " + parts[0], got, number(due));
        }
        lookForChanges(parts[0], due);
    }

    private void lookForChanges(String call, String due) {
        boolean loop = due.equals("LOOP");
        if (!REFUSALS.contains(due) && !due.startsWith("FAULT") && !loop) {
            changes.add(call);
            whole = null;
            return;
        }
        if (whole == null) {
            whole = Whole.of(changes);
        }
        List<String> more = new ArrayList<>(changes);
        more.add(call);
        if (loop) {
            checks.that(sentence + ": LOOP changes nothing but what is shown, " + call, Whole.butShown(changes).equals(Whole.butShown(more)));
            changes.add(call);
            whole = null;
        } else if (due.startsWith("FAULT")) {
            changes.add("wipe");
            whole = Whole.of(changes);
            checks.that(sentence + ": a FAULT empties the tape alone, " + call, whole.equals(Whole.of(more)));
        } else {
            checks.that(sentence + ": refused, so nothing changes, " + call, whole.equals(Whole.of(more)));
        }
    }

    /** A new object behind such calls. */
    static LayeredRules behind(List<String> calls) {
        LayeredRules x = new LayeredRules();
        for (String call : calls) {
            play(x, call);
        }
        return x;
    }

    private static int costs(String call) {
        if (call.startsWith("tape ")) {
            return call.length() - 5;
        }
        return call.contains("*") ? number(call.substring(0, call.indexOf('*'))) : 1;
    }

    private static int play(LayeredRules x, String call) {
        if (call.startsWith("tape ")) {
            Checks.type(x, call.substring(5));
            return 0;
        }
        int star = call.indexOf('*');
        int got = 0;
        for (int k = star < 0 ? 1 : number(call.substring(0, star)); k > 0; k--) {
            got = once(x, call.substring(star + 1).trim());
        }
        return got;
    }

    private static int once(LayeredRules x, String call) {
        String[] words = call.split(" +");
        Object[] arguments = new Object[words.length - 1];
        for (int i = 0; i < arguments.length; i++) {
            arguments[i] = number(words[i + 1]);
        }
        try {
            return (int) CALLS.get(words[0]).invoke(x, arguments);
        } catch (ReflectiveOperationException e) {
            throw new IllegalStateException(call, e);
        }
    }

    /** The same row on the plain model. */
    static void onModel(PlainModel model, String call) {
        if (call.startsWith("tape ")) {
            for (char one : call.substring(5).toCharArray()) {
                model.call("feed", new int[] {one, 1});
            }
            return;
        }
        int star = call.indexOf('*');
        String[] words = call.substring(star + 1).trim().split(" +");
        int[] arguments = new int[words.length - 1];
        for (int i = 0; i < arguments.length; i++) {
            arguments[i] = number(words[i + 1]);
        }
        for (int k = costs(call); k > 0; k--) {
            model.call(words[0], arguments);
        }
    }

    private static int number(String word) {
        if (word.startsWith("FAULT ")) {
            return -100 - Integer.parseInt(word.substring(6));
        }
        return NAMES.containsKey(word) ? NAMES.get(word) : Integer.parseInt(word);
    }
}
