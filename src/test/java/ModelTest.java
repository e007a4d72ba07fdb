import java.lang.reflect.Method;
import java.util.ArrayList;
import java.util.Arrays;
import java.util.Comparator;
import java.util.List;
import java.util.Map;
import java.util.Random;
import java.util.TreeMap;

/** Runs of drawn calls on the class and on PlainModel: all answers, and all that can be asked, are alike. */
public final class ModelTest {
    private static final int RUNS = 1500, CALLS = 200;
    private static final Method[] METHODS = methods();
    private static final Map<String, Integer> answered = new TreeMap<>();
    private static int wrong = 0;
    private static long compared = 0;

    public static void main(String[] args) throws Exception {
        for (int run = 0; run < RUNS && wrong == 0; run++) {
            oneRun(run);
        }
        System.out.println(compared + " answers compared, " + wrong + " wrong");
        if (args.length > 0) {
            System.out.println(answered);
        }
        if (wrong != 0) {
            System.exit(1);
        }
    }

    private static Method[] methods() {
        List<Method> all = new ArrayList<>();
        for (Method m : LayeredRules.class.getDeclaredMethods()) {
            if (java.lang.reflect.Modifier.isPublic(m.getModifiers())) {
                all.add(m);
            }
        }
        all.sort(Comparator.comparing(Method::getName));
        return all.toArray(new Method[0]);
    }

    private static void oneRun(int run) throws Exception {
        Random random = new Random(run);
        LayeredRules x = new LayeredRules();
        PlainModel model = new PlainModel();
        List<String> told = new ArrayList<>();
        String[][] liked = {{}, {"thing", "effect", "hurt", "next", "watch", "rule", "watches"}, {"hurt", "next", "hurt", "next", "watch", "choice"}};
        String[] often = liked[run % 3];
        if (run % 3 == 2) {
            openBattle(random, x, model, told);
        }
        for (int k = 0; k < CALLS && wrong == 0; k++) {
            if (random.nextInt(25) == 0) {
                typeText(random, x, model, told);
            }
            Method m = METHODS[random.nextInt(METHODS.length)];
            if (m.getName().equals("clear") && random.nextInt(8) != 0) {
                continue;
            }
            if (often.length > 0 && random.nextInt(3) != 0) {
                m = named(often[random.nextInt(often.length)]);
            }
            compare(x, model, m, arguments(random, m), told);
            if (k % 20 == 19) {
                compareAll(x, model, told);
            }
        }
    }

    /** Many that live long, and many watchers: here stacks grow and loops come. */
    private static void openBattle(Random random, LayeredRules x, PlainModel model, List<String> told) throws Exception {
        for (int t = 0; t < 8; t++) {
            int[] a = {random.nextInt(2), random.nextInt(6), random.nextInt(9), random.nextBoolean() ? 99 : 1 + random.nextInt(20)};
            compare(x, model, named("thing"), a, told);
        }
        for (String name : new String[] {"effect", "effect", "effect", "source", "rule", "rule", "watch", "watch", "watch", "watch", "watches", "watches", "watches"}) {
            compare(x, model, named(name), arguments(random, named(name)), told);
        }
    }

    private static Method named(String name) {
        for (Method m : METHODS) {
            if (m.getName().equals(name)) {
                return m;
            }
        }
        throw new IllegalStateException(name);
    }

    private static void compare(LayeredRules x, PlainModel model, Method m, int[] a, List<String> told) throws Exception {
        Object[] boxed = new Object[a.length];
        for (int i = 0; i < a.length; i++) {
            boxed[i] = a[i];
        }
        int got = (int) m.invoke(x, boxed);
        int want = model.call(m.getName(), a);
        compared++;
        answered.merge(m.getName() + (got < 0 ? " " + Math.max(got, -101) : ""), 1, Integer::sum);
        String row = m.getName() + Arrays.toString(a);
        told.add(row + " = " + got);
        if (got != want) {
            wrong++;
            told.forEach(System.out::println);
            System.out.println(row + " answered " + got + ", due is " + want);
        }
    }

    private static void compareAll(LayeredRules x, PlainModel model, List<String> told) throws Exception {
        List<String> before = new ArrayList<>(told);
        ask(x, model, before, "count", 7, -1);
        ask(x, model, before, "of", 8, 5);
        ask(x, model, before, "now", 8, 3);
        ask(x, model, before, "order", 10, -1);
        ask(x, model, before, "depends", 9, 9);
        ask(x, model, before, "ruleOf", 8, 1);
        ask(x, model, before, "shown", 40, -1);
        ask(x, model, before, "item", 3, 40);
        ask(x, model, before, "scope", 5, 7);
        for (int t = 0; t < 8; t++) {
            for (int what = 0; what <= 2; what++) {
                compare(x, model, named("aim"), new int[] {t, 13, what}, before);
            }
        }
    }

    private static void ask(LayeredRules x, PlainModel model, List<String> told, String name, int a, int b) throws Exception {
        Method m = named(name);
        for (int i = -1; i <= a; i++) {
            if (b < 0) {
                compare(x, model, m, new int[] {i}, told);
            }
            for (int j = 0; j <= b; j++) {
                compare(x, model, m, new int[] {i, j}, told);
            }
        }
    }

    private static int[] arguments(Random random, Method m) {
        int[] a = new int[m.getParameterCount()];
        for (int i = 0; i < a.length; i++) {
            a[i] = argument(random);
        }
        if (random.nextInt(12) == 0) {
            return a;
        }
        switch (m.getName()) {
            case "thing":
                return new int[] {random.nextInt(2), random.nextInt(6), random.nextInt(12), 1 + random.nextInt(random.nextInt(4) == 0 ? 99 : 15)};
            case "set":
                return new int[] {random.nextInt(8), 1 + random.nextInt(4), random.nextInt(8)};
            case "effect":
                int sort = random.nextInt(6);
                int how = random.nextInt(6);
                return new int[] {sort, how, scoped(random, how), sort < 3 ? random.nextInt(6) : random.nextInt(8) - 3, random.nextInt(8) - 3};
            case "source":
                return new int[] {random.nextInt(10), random.nextInt(9) - 1};
            case "lasts":
                return new int[] {random.nextInt(10), random.nextInt(5)};
            case "depends":
                return new int[] {random.nextInt(10), random.nextInt(10)};
            case "rule":
                int by = random.nextInt(6);
                return new int[] {random.nextInt(5), by, scoped(random, by), random.nextInt(9)};
            case "watch":
                return new int[] {random.nextInt(2), random.nextInt(3), random.nextInt(3), random.nextInt(9) - 1, random.nextInt(5)};
            case "watches":
                int w = random.nextInt(6);
                return new int[] {random.nextInt(8), w, scoped(random, w)};
            case "hurt":
                return new int[] {random.nextInt(8), 1 + random.nextInt(random.nextInt(4) == 0 ? 99 : 6)};
            case "aim":
                return new int[] {random.nextInt(8), 1 + random.nextInt(99), random.nextInt(3)};
            case "choice":
                return new int[] {random.nextInt(2), random.nextInt(2)};
            case "tell":
                return new int[] {random.nextInt(10), random.nextInt(4)};
            case "deal":
                return new int[] {random.nextInt(4)};
            case "sheet":
                return new int[] {random.nextInt(4), random.nextInt(6) % 3 - (random.nextInt(4) == 0 ? 1 : 0), random.nextInt(43) - 1};
            case "write":
                return new int[] {random.nextInt(4), random.nextInt(20), random.nextInt()};
            case "copy":
                return new int[] {random.nextInt(4), random.nextInt(9), random.nextInt(4), random.nextInt(9), random.nextInt(9)};
            default:
                return a;
        }
    }

    private static int scoped(Random random, int how) {
        return random.nextInt(new int[] {9, 2, 6, 6, 6, 8}[how]);
    }

    private static int argument(Random random) {
        switch (random.nextInt(12)) {
            case 0: return random.nextInt();
            case 1: return random.nextBoolean() ? Integer.MIN_VALUE : Integer.MAX_VALUE;
            case 2: return random.nextInt(140) - 20;
            default: return random.nextInt(10) - 1;
        }
    }

    private static void typeText(Random random, LayeredRules x, PlainModel model, List<String> told) throws Exception {
        String[] words = {"all", "owner", "type", "with", "without", "thing", "is", "gains", "loses", "sets", "gets", "swaps",
            "0", "1", "2", "5", "7", "9", "10", "03", "-", ";", " ", "  ", "x", "A", "\t"};
        StringBuilder text = new StringBuilder();
        int phrases = 1 + random.nextInt(4);
        for (int p = 0; p < phrases; p++) {
            int how = random.nextInt(6);
            int sort = random.nextInt(6);
            text.append(p > 0 ? ";" : "").append(words[how]).append(how > 0 ? " " + scoped(random, how) : "").append(' ').append(words[6 + sort]);
            if (sort < 3) {
                text.append(' ').append(random.nextInt(6));
            } else if (sort < 5) {
                text.append(' ').append(random.nextInt(12) - 2).append(random.nextBoolean() ? " " : "  ").append(random.nextInt(12) - 2);
            }
        }
        if (random.nextInt(3) == 0) {
            text.insert(random.nextInt(text.length() + 1), words[random.nextInt(words.length)]);
        }
        if (random.nextInt(6) == 0) {
            text.setLength(random.nextInt(text.length() + 1));
        }
        if (random.nextInt(20) != 0) {
            compare(x, model, named("wipe"), new int[0], told);
        }
        for (int i = 0; i < text.length(); i++) {
            compare(x, model, named("feed"), new int[] {text.charAt(i), 1}, told);
        }
        compare(x, model, named("text"), new int[0], told);
    }
}
