import java.lang.reflect.Field;
import java.lang.reflect.Method;
import java.lang.reflect.Modifier;
import java.nio.file.Files;
import java.nio.file.Path;
import java.util.Set;
import java.util.TreeSet;
import java.util.regex.Matcher;
import java.util.regex.Pattern;

/** The document's face and what of the rules in LANGUAGE.md can be looked up in the text and by reflection. */
public final class FaceTest {
    private static final Checks c = new Checks();

    private static final String FACE = "clear() thing(iiii) of(ii) now(ii) set(iii) scope(ii) effect(iiiii) source(ii) lasts(ii) ends(i) "
        + "order(i) depends(ii) rule(iiii) ruleOf(ii) unrule(i) choice(ii) watch(iiiii) watches(iii) unwatch(i) hurt(ii) aim(iii) "
        + "next() shown(i) feed(ii) wipe() text() tell(ii) seed(i) deal(i) sheet(iii) write(iii) item(ii) copy(iiiii) image() back() count(i)";

    public static void main(String[] args) throws Exception {
        face();
        words(Files.readString(Path.of("src/main/java/LayeredRules.java")));
        c.end();
    }

    private static void face() {
        Class<LayeredRules> all = LayeredRules.class;
        c.that("public and final", Modifier.isPublic(all.getModifiers()) && Modifier.isFinal(all.getModifiers()));
        Set<String> open = new TreeSet<>();
        Set<String> names = new TreeSet<>();
        for (Method m : all.getDeclaredMethods()) {
            boolean isPublic = Modifier.isPublic(m.getModifiers());
            c.that("private or public: " + m.getName(), isPublic || Modifier.isPrivate(m.getModifiers()));
            if (isPublic) {
                open.add(m.getName() + "(" + "i".repeat(m.getParameterCount()) + ")");
                names.add(m.getName());
                c.that("answers an int: " + m.getName(), m.getReturnType() == int.class && !Modifier.isStatic(m.getModifiers()));
            }
        }
        c.that("the calls are those of the document", open.equals(new TreeSet<>(Set.of(FACE.split(" ")))));
        for (Field f : all.getDeclaredFields()) {
            boolean constant = Set.of("NONE", "BAD", "STATE", "FULL", "LOOP").contains(f.getName());
            c.that("private but the constants: " + f.getName(), Modifier.isPublic(f.getModifiers()) == constant);
            c.that("final if static: " + f.getName(), !Modifier.isStatic(f.getModifiers()) || Modifier.isFinal(f.getModifiers()));
        }
        for (Class<?> inside : all.getDeclaredClasses()) {
            c.that("static: " + inside, Modifier.isStatic(inside.getModifiers()));
            c.that("some twenty fields: " + inside, inside.getDeclaredFields().length <= 20);
            for (Method m : inside.getDeclaredMethods()) {
                c.that("no name of the face: " + m.getName(), !names.contains(m.getName()));
                c.that("seven parameters: " + m.getName(), m.getParameterCount() <= 7);
            }
        }
        c.that("some twelve classes", all.getDeclaredClasses().length <= 12);
        c.due("NONE", LayeredRules.NONE, -1);
        c.due("BAD", LayeredRules.BAD, -2);
        c.due("STATE", LayeredRules.STATE, -3);
        c.due("FULL", LayeredRules.FULL, -4);
        c.due("LOOP", LayeredRules.LOOP, -5);
    }

    private static void words(String source) {
        String code = source.replaceAll("(?s)/\\*.*?\\*/", "").replaceAll("//[^\n]*", "").replaceAll("\"[^\"\n]*\"", "\"\"");
        for (String word : new String[] {"throw", "try", "catch", "synchronized", "assert", "import", "package", "protected",
            "toString", "hashCode", "System.out", "Exact", "instanceof"}) {
            c.that("without " + word, !Pattern.compile("\\b" + Pattern.quote(word)).matcher(code).find());
        }
        c.that("no lambda", !code.contains("->") && !code.contains("::"));
        c.that("no static block", !Pattern.compile("static\\s*\\{").matcher(code).find());
        c.that("plain signs", source.chars().allMatch(s -> s == '\n' || (s >= 32 && s < 127)));
        Matcher m = Pattern.compile("\\n    (?:    )?(?:public|private|void|int|boolean|static)[^\\n;=]*\\) \\{\\n(.*?)\\n    (?:    )?\\}\\n", Pattern.DOTALL).matcher(code);
        while (m.find()) {
            c.that("short: " + m.group().trim().split("\n")[0], m.group().split("\n").length <= 60);
        }
        Matcher made = Pattern.compile("\\n *([^\\n]*)\\bnew ").matcher(code);
        while (made.find()) {
            String row = made.group(1);
            boolean field = row.startsWith("private final") || row.startsWith("final");
            boolean inConstructor = row.matches("(sheets|things|effects|rules|watchers|phrases)\\[\\w\\] = ");
            c.that("made in a constructor: " + row, field || inConstructor);
        }
    }
}
