import java.lang.reflect.Method;
import java.util.ArrayList;
import java.util.Arrays;
import java.util.List;
import java.util.Set;

/** What the terms say of all calls: refusals change nothing, the first that is named, what is asked changes nothing. */
public final class TermsBoundsTest {
    private static final Checks c = new Checks();
    private static final int[] EDGES = {Integer.MIN_VALUE, -10, -9, -2, -1, 0, 1, 2, 3, 4, 5, 6, 7, 8, 9, 10, 40, 41, 99, 100, 999, 1000, Integer.MAX_VALUE};
    private static final Set<String> QUESTIONS = Set.of("of", "now", "scope", "order", "depends", "ruleOf", "aim", "shown", "item", "count");

    private static final String[] NEW = {};
    private static final String[] ONE = {"thing 0 1 2 9", "effect 0 0 0 3 0", "rule 0 0 0 5", "watch 0 0 1 -1 1", "sheet 0 1 1", "sheet 1 0 1"};
    private static final String[] MANY = {"4* thing 0 1 3 50", "3* thing 1 2 4 40", "effect 0 2 1 2 0", "effect 1 0 0 3 0", "source 1 2", "lasts 1 3", "effect 4 3 3 1 -1", "set 6 4 50",
        "rule 0 0 0 5", "rule 3 5 0 1", "rule 2 0 0 0", "watch 0 0 1 -1 1", "watch 1 1 2 0 0", "watches 1 1 1", "choice 1 1", "next", "image", "sheet 0 1 5", "write 0 3 -2",
        "sheet 1 0 2", "tape all swaps", "seed 12"};
    private static final String[] ALL_FULL = {"4* thing 0 1 3 50", "3* thing 1 2 4 40", "thing 1 5 6 0", "10* effect 4 0 0 1 1", "source 3 7", "lasts 9 9", "8* rule 1 5 2 0", "8* watch 0 1 1 -1 1",
        "30* feed 32 4", "sheet 0 0 40", "sheet 1 1 40", "sheet 2 0 0", "image"};

    public static void main(String[] args) throws Exception {
        String[][] scenes = {NEW, ONE, MANY, ALL_FULL};
        for (String[] scene : scenes) {
            for (Method m : LayeredRules.class.getDeclaredMethods()) {
                if (java.lang.reflect.Modifier.isPublic(m.getModifiers())) {
                    edges(scene, m);
                }
            }
        }
        questions();
        refusalsChangeNothing();
        the512thCall();
        c.end();
    }

    /** Two arguments at a time go through all edges, the others are such as may be: the first refusal that is named. */
    private static void edges(String[] scene, Method m) throws Exception {
        int n = m.getParameterCount();
        Pair pair = new Pair(scene);
        for (int i = 0; i < n; i++) {
            for (int j = i + 1; j < Math.max(n, i + 2); j++) {
                for (int first : EDGES) {
                    for (int second : j < n ? EDGES : new int[] {0}) {
                        int[] a = usual(m.getName(), n);
                        a[i] = first;
                        if (j < n) {
                            a[j] = second;
                        }
                        pair = pair.compare(m, a);
                    }
                }
            }
        }
    }

    private static int[] usual(String name, int n) {
        switch (name) {
            case "thing": return new int[] {1, 3, 4, 5};
            case "copy": return new int[] {0, 0, 0, 0, 1};
            case "sheet": return new int[] {2, 1, 2};
            case "feed": return new int[] {65, 1};
            case "hurt": return new int[] {0, 3};
            case "aim": return new int[] {0, 9, 1};
            case "set": return new int[] {0, 2, 1};
            case "rule": return new int[] {0, 0, 0, 2};
            case "depends": return new int[] {0, 1};
            default: return new int[n];
        }
    }

    /** The class and the plain model behind the same scene; made anew when a call has changed something. */
    private static final class Pair {
        private final String[] scene;
        private final LayeredRules x;
        private final PlainModel model = new PlainModel();

        Pair(String[] scene) {
            this.scene = scene;
            x = Run.behind(Arrays.asList(scene));
            for (String call : scene) {
                Run.onModel(model, call);
            }
        }

        Pair compare(Method m, int[] a) throws Exception {
            Object[] boxed = Arrays.stream(a).boxed().toArray();
            int got = (int) m.invoke(x, boxed);
            c.due(scene.length + " rows, " + m.getName() + Arrays.toString(a), got, model.call(m.getName(), a));
            boolean refused = got >= -14 && got < 0 && !Set.of("source", "seed").contains(m.getName());
            return refused || QUESTIONS.contains(m.getName()) ? this : new Pair(scene);
        }
    }

    private static void questions() {
        for (String[] scene : new String[][] {NEW, ONE, MANY, ALL_FULL}) {
            for (String ask : new String[] {"of 0 4", "of 7 5", "now 0 0", "now 7 3", "scope 0 0", "scope 3 3", "order -1", "order 0", "depends 0 1", "depends 1 0", "ruleOf 0 1", "aim 0 9 0",
                "aim 0 99 1", "aim 5 1 2", "shown -1", "shown 0", "item 0 3", "item 1 1", "count 0", "count 1", "count 2", "count 3", "count 4", "count 5", "count 6", "count 7"}) {
                unchanged("what is asked changes nothing", scene, ask);
            }
        }
    }

    /** One call of each kind of refusal on a full object; Run looks at each one that it is told. */
    private static void refusalsChangeNothing() {
        for (String call : new String[] {"of 8 0", "now 0 4", "set 0 2 100", "set 7 2 1", "scope 6 0", "thing 0 0 1 1", "thing 2 0 1 1", "effect 4 0 0 1 1", "effect 6 0 0 1 1", "source 10 -1",
            "source 0 8", "lasts 0 10", "ends 10", "order -2", "order 10", "depends 0 0", "depends 0 3", "rule 1 0 0 0", "rule 5 0 0 0", "ruleOf 8 0", "unrule 8", "choice 2 0", "watch 0 0 0 0 1",
            "watch 2 0 0 0 1", "watches 8 0 0", "unwatch 8", "hurt 7 1", "hurt 0 100", "aim 7 1 0", "aim 0 0 0", "shown -2", "shown 0", "feed 0 1", "feed 0 5", "tell 10 0", "tell 0 4", "deal 9",
            "sheet 4 0 0", "sheet 0 0 41", "sheet 0 0 -1", "write 3 0 1", "write 0 40 1", "item 3 0", "item 2 0", "copy 0 0 3 0 1", "copy 0 0 1 0 1", "copy 0 0 2 0 1", "copy 0 0 0 0 -1", "count 8"}) {
            unchanged("a refused call changes nothing", ALL_FULL, call);
        }
        unchanged("a refused call changes nothing", NEW, "back");
    }

    private static void the512thCall() {
        Run.of(c, "at most 512 calls: the last one", "thing 0 0 1 9 = 0", "effect 4 0 0 1 1 = 0", "509* next = 0", "count 5 = 1");
    }

    private static void unchanged(String sentence, String[] scene, String call) {
        List<String> more = new ArrayList<>(Arrays.asList(scene));
        more.add(call);
        c.that(sentence + ": " + call, Whole.of(Arrays.asList(scene)).equals(Whole.of(more)));
    }
}
