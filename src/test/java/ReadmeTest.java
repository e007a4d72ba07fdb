import java.lang.reflect.Method;
import java.lang.reflect.Modifier;
import java.nio.file.Files;
import java.nio.file.Path;
import java.util.HashMap;
import java.util.Map;
import java.util.Set;
import java.util.TreeSet;
import java.util.regex.Matcher;
import java.util.regex.Pattern;

/** The examples of README.md, row by row: each call must answer what is told behind it. */
public final class ReadmeTest {
    private static final Pattern EXAMPLE = Pattern.compile("```java\n(.*?)```", Pattern.DOTALL);
    private static final Pattern ROW = Pattern.compile("(?:int (\\w+) = )?x\\.(\\w+)\\(([^)]*)\\); *// (-?\\d+)(?::.*)?");
    private static final String NEW = "LayeredRules x = new LayeredRules();";
    private static final Checks c = new Checks();

    private final Map<String, Integer> names = new HashMap<>();
    private LayeredRules x = null;

    public static void main(String[] args) throws Exception {
        String readme = Files.readString(Path.of("README.md"));
        Matcher example = EXAMPLE.matcher(readme);
        int found = 0;
        while (example.find()) {
            found++;
            ReadmeTest one = new ReadmeTest();
            for (String row : example.group(1).split("\n")) {
                one.row(row);
            }
        }
        c.that("there are examples", found > 0);
        everyCallIsNamed(readme);
        c.end();
    }

    private void row(String row) throws Exception {
        if (row.equals(NEW)) {
            x = new LayeredRules();
            return;
        }
        Matcher m = ROW.matcher(row);
        boolean isRow = m.matches();
        c.that("a row that can be read: " + row, isRow && x != null);
        if (!isRow || x == null) {
            return;
        }
        int got = call(m.group(2), m.group(3));
        c.due(row, got, Integer.parseInt(m.group(4)));
        if (m.group(1) != null) {
            names.put(m.group(1), got);
        }
    }

    private int call(String name, String list) throws Exception {
        String[] words = list.isEmpty() ? new String[0] : list.split(", ");
        Object[] values = new Object[words.length];
        Class<?>[] kinds = new Class<?>[words.length];
        for (int i = 0; i < words.length; i++) {
            values[i] = names.containsKey(words[i]) ? names.get(words[i]) : Integer.valueOf(words[i]);
            kinds[i] = int.class;
        }
        return (Integer) LayeredRules.class.getMethod(name, kinds).invoke(x, values);
    }

    private static void everyCallIsNamed(String readme) {
        Set<String> missing = new TreeSet<>();
        for (Method m : LayeredRules.class.getDeclaredMethods()) {
            boolean isPublic = Modifier.isPublic(m.getModifiers());
            if (isPublic && !readme.contains("`" + m.getName() + "`")) {
                missing.add(m.getName());
            }
        }
        c.that("README.md names every call, but " + missing, missing.isEmpty());
    }
}
