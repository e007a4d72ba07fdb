import java.util.ArrayDeque;
import java.util.ArrayList;
import java.util.Arrays;
import java.util.Deque;
import java.util.HashMap;
import java.util.LinkedHashSet;
import java.util.List;
import java.util.Map;
import java.util.Set;
import java.util.TreeSet;
import java.util.regex.Matcher;
import java.util.regex.Pattern;

/** The document once more, written as plainly as can be and with the library, to compare the class with. */
final class PlainModel {
    /** owner, type, force, guard, wounds, alive, last type, last marks, last force, last guard. */
    List<int[]> things = new ArrayList<>();
    /** sort, how, x, v, u, source, turns. */
    List<int[]> effects = new ArrayList<>();
    /** sort, how, x, v. */
    List<int[]> rules = new ArrayList<>();
    /** owner, on, act, to, v, how, x. */
    List<int[]> watchers = new ArrayList<>();
    int[] choices = {0, 0};
    int turn = 0;
    int z = 1;

    List<Integer> shown = new ArrayList<>();
    StringBuilder tape = new StringBuilder();
    int[][] sheets = new int[4][];
    boolean[] bytes = new boolean[4];
    PlainModel image = null;

    private final Deque<int[]> stack = new ArrayDeque<>();
    private final List<Integer> acts = new ArrayList<>();
    private boolean watching = false;

    private static final String[] SCOPES = {"all", "owner", "type", "with", "without", "thing"};
    private static final String[] DEEDS = {"is", "gains", "loses", "sets", "gets", "swaps"};
    private static final int[] MOST_X = {Integer.MAX_VALUE, 1, 5, 5, 5, 7};
    private static final int[] LAYER = {0, 1, 1, 2, 3, 4};

    // what a call may do: its name, its arguments

    int call(String name, int[] a) {
        switch (name) {
            case "clear": return clear();
            case "thing": return thing(a[0], a[1], a[2], a[3]);
            case "of": return !isThing(a[0]) || a[1] < 0 || a[1] > 5 ? -2 : things.get(a[0])[a[1]];
            case "now": return now(a[0], a[1]);
            case "set": return set(a[0], a[1], a[2]);
            case "scope": return badScope(a[0], a[1]) ? -2 : bits(inScope(look(5, null), a[0], a[1]));
            case "effect": return effect(a[0], a[1], a[2], a[3], a[4]);
            case "source": return source(a[0], a[1]);
            case "lasts": return swap(effects, a[0], 6, a[1], a[1] < 0 || a[1] > 9);
            case "ends": return remove(effects, a[0]);
            case "order": return order(a[0]);
            case "depends": return depends(a[0], a[1]);
            case "rule": return rule(a[0], a[1], a[2], a[3]);
            case "ruleOf": return !isOf(rules, a[0]) || a[1] < 0 || a[1] > 1 ? -2 : rules.get(a[0])[a[1] * 3];
            case "unrule": return remove(rules, a[0]);
            case "choice": return choice(a[0], a[1]);
            case "watch": return watch(a[0], a[1], a[2], a[3], a[4]);
            case "watches": return watches(a[0], a[1], a[2]);
            case "unwatch": return remove(watchers, a[0]);
            case "hurt": return hurt(a[0], a[1]);
            case "aim": return aim(a[0], a[1], a[2]);
            case "next": return next();
            case "shown": return a[0] < -1 ? -2 : a[0] == -1 ? shown.size() : a[0] >= shown.size() ? -1 : shown.get(a[0]);
            case "feed": return feed(a[0], a[1]);
            case "wipe": return emptyTape();
            case "text": return text();
            case "tell": return tell(a[0], a[1]);
            case "seed": return seed(a[0]);
            case "deal": return deal(a[0]);
            case "sheet": return sheet(a[0], a[1], a[2]);
            case "write": return write(a[0], a[1], a[2]);
            case "item": return place(a[0], a[1]) != 0 ? place(a[0], a[1]) : sheets[a[0]][a[1]];
            case "copy": return copy(a[0], a[1], a[2], a[3], a[4]);
            case "image": return keep();
            case "back": return back();
            case "count": return count(a[0]);
            default: throw new IllegalStateException(name);
        }
    }

    private boolean isThing(int t) {
        return isOf(things, t);
    }

    private static boolean isOf(List<int[]> row, int i) {
        return i >= 0 && i < row.size();
    }

    private static boolean out(int v, int least, int most) {
        return v < least || v > most;
    }

    private static boolean badScope(int how, int x) {
        return out(how, 0, 5) || (how > 0 && out(x, 0, MOST_X[how]));
    }

    private int clear() {
        int had = things.size();
        things.clear();
        effects.clear();
        rules.clear();
        watchers.clear();
        choices = new int[2];
        turn = 0;
        shown.clear();
        return had;
    }

    private int thing(int owner, int type, int force, int guard) {
        if (out(owner, 0, 1) || out(type, 0, 5) || out(force, 0, 99) || out(guard, 0, 99)) {
            return -2;
        }
        if (things.size() == 8) {
            return -4;
        }
        things.add(new int[] {owner, type, force, guard, 0, 1, 0, 0, 0, 0});
        rounds();
        return things.size() - 1;
    }

    private int now(int t, int what) {
        if (!isThing(t) || out(what, 0, 3)) {
            return -2;
        }
        return things.get(t)[5] == 1 ? look(5, null).get(t)[what] : things.get(t)[6 + what];
    }

    private int set(int t, int what, int v) {
        int[] most = {-1, 5, 99, 99, 999};
        if (!isThing(t) || out(what, 1, 4) || out(v, 0, most[what])) {
            return -2;
        }
        if (things.get(t)[5] == 0) {
            return -3;
        }
        int was = things.get(t)[what];
        things.get(t)[what] = v;
        rounds();
        return was;
    }

    /** Type, marks, force, guard of each living thing by the first layers; the order goes to done. */
    private Map<Integer, int[]> look(int layers, List<Integer> done) {
        Map<Integer, int[]> all = new HashMap<>();
        for (int t = 0; t < things.size(); t++) {
            int[] one = things.get(t);
            if (one[5] == 1) {
                all.put(t, new int[] {one[1], 0, one[2], one[3]});
            }
        }
        for (int layer = 0; layer < layers; layer++) {
            Set<Integer> open = new TreeSet<>();
            for (int e = 0; e < effects.size(); e++) {
                if (LAYER[effects.get(e)[0]] == layer && works(e)) {
                    open.add(e);
                }
            }
            while (!open.isEmpty()) {
                int chosen = open.iterator().next();
                for (int e : open) {
                    boolean free = true;
                    for (int f : open) {
                        free &= e == f || !dependsAt(all, e, f);
                    }
                    if (free) {
                        chosen = e;
                        break;
                    }
                }
                open.remove(chosen);
                all = after(all, chosen);
                if (done != null) {
                    done.add(chosen);
                }
            }
        }
        return all;
    }

    private boolean works(int e) {
        int source = effects.get(e)[5];
        return source == -1 || things.get(source)[5] == 1;
    }

    private boolean dependsAt(Map<Integer, int[]> all, int e, int f) {
        int[] one = effects.get(e);
        return !inScope(all, one[1], one[2]).equals(inScope(after(all, f), one[1], one[2]));
    }

    private Map<Integer, int[]> after(Map<Integer, int[]> all, int f) {
        int[] e = effects.get(f);
        Map<Integer, int[]> then = new HashMap<>();
        all.forEach((t, values) -> then.put(t, values.clone()));
        for (int t : inScope(all, e[1], e[2])) {
            int[] b = then.get(t);
            switch (e[0]) {
                case 0: b[0] = e[3]; break;
                case 1: b[1] |= 1 << e[3]; break;
                case 2: b[1] &= 63 - (1 << e[3]); break;
                case 3: b[2] = e[3]; b[3] = e[4]; break;
                case 4: b[2] += e[3]; b[3] += e[4]; break;
                default: int was = b[2]; b[2] = b[3]; b[3] = was; break;
            }
        }
        return then;
    }

    private Set<Integer> inScope(Map<Integer, int[]> all, int how, int x) {
        Set<Integer> in = new TreeSet<>();
        for (int t : all.keySet()) {
            int[] b = all.get(t);
            boolean[] is = {true, things.get(t)[0] == x, b[0] == x, (b[1] & 1 << x) != 0, (b[1] & 1 << x) == 0, t == x};
            if (is[how]) {
                in.add(t);
            }
        }
        return in;
    }

    private static int bits(Set<Integer> in) {
        int all = 0;
        for (int t : in) {
            all += 1 << t;
        }
        return all;
    }

    private void rounds() {
        while (true) {
            Map<Integer, int[]> ahead = look(5, null);
            Set<Integer> dying = new TreeSet<>();
            for (int t : ahead.keySet()) {
                if (things.get(t)[4] >= ahead.get(t)[3]) {
                    dying.add(t);
                }
            }
            if (dying.isEmpty()) {
                return;
            }
            setOff(1, dying, ahead);
            for (int t : dying) {
                things.get(t)[5] = 0;
                System.arraycopy(ahead.get(t), 0, things.get(t), 6, 4);
            }
        }
    }

    private void setOff(int on, Set<Integer> by, Map<Integer, int[]> all) {
        if (!watching) {
            return;
        }
        for (int owner : new int[] {turn, 1 - turn}) {
            for (int w = 0; w < watchers.size(); w++) {
                int[] one = watchers.get(w);
                if (one[0] == owner && one[1] == on) {
                    Set<Integer> in = new TreeSet<>(by);
                    in.retainAll(inScope(all, one[5], one[6]));
                    for (int t : in) {
                        stack.push(new int[] {w, t});
                    }
                }
            }
        }
    }

    private int effect(int sort, int how, int x, int v, int u) {
        if (out(sort, 0, 5) || badScope(how, x) || out(v, sort < 3 ? 0 : -9, sort < 3 ? 5 : 9) || out(u, -9, 9)) {
            return -2;
        }
        if (effects.size() == 10) {
            return -4;
        }
        effects.add(new int[] {sort, how, x, v, u, -1, 0});
        rounds();
        return effects.size() - 1;
    }

    private int source(int e, int t) {
        return swap(effects, e, 5, t, t != -1 && !isThing(t));
    }

    private int swap(List<int[]> row, int i, int field, int v, boolean bad) {
        if (!isOf(row, i) || bad) {
            return -2;
        }
        int was = row.get(i)[field];
        row.get(i)[field] = v;
        rounds();
        return was;
    }

    private int remove(List<int[]> row, int i) {
        if (!isOf(row, i)) {
            return -2;
        }
        row.remove(i);
        rounds();
        return row.size();
    }

    private int order(int i) {
        List<Integer> done = new ArrayList<>();
        look(5, done);
        return i < -1 ? -2 : i == -1 ? done.size() : i >= done.size() ? -1 : done.get(i);
    }

    private int depends(int e, int f) {
        if (!isOf(effects, e) || !isOf(effects, f) || e == f) {
            return -2;
        }
        int layer = LAYER[effects.get(e)[0]];
        if (layer != LAYER[effects.get(f)[0]] || !works(e) || !works(f)) {
            return -3;
        }
        return dependsAt(look(layer, null), e, f) ? 1 : 0;
    }

    private int rule(int sort, int how, int x, int v) {
        if (out(sort, 0, 4) || badScope(how, x) || (sort == 0 && out(v, 1, 99)) || (sort == 3 && out(v, 0, 7))) {
            return -2;
        }
        if (rules.size() == 8) {
            return -4;
        }
        rules.add(new int[] {sort, how, x, v});
        return rules.size() - 1;
    }

    private int choice(int owner, int v) {
        if (out(owner, 0, 1) || out(v, 0, 1)) {
            return -2;
        }
        int was = choices[owner];
        choices[owner] = v;
        return was;
    }

    private int watch(int owner, int on, int act, int to, int v) {
        if (out(owner, 0, 1) || out(on, 0, 2) || out(act, 0, 2) || out(to, -1, 7) || out(v, 0, 9)) {
            return -2;
        }
        if (watchers.size() == 8) {
            return -4;
        }
        watchers.add(new int[] {owner, on, act, to, v, 0, 0});
        return watchers.size() - 1;
    }

    private int watches(int w, int how, int x) {
        if (!isOf(watchers, w) || badScope(how, x)) {
            return -2;
        }
        int was = watchers.get(w)[5];
        watchers.get(w)[5] = how;
        watchers.get(w)[6] = x;
        return was;
    }

    /** To whom, how many wounds, how many rules. */
    private int[] wound(int t, int n, boolean truly) {
        Set<Integer> used = new LinkedHashSet<>();
        while (n > 0) {
            List<Integer> may = new ArrayList<>();
            for (int r = 0; r < rules.size(); r++) {
                int[] one = rules.get(r);
                boolean leads = one[0] == 3;
                boolean can = !leads || (one[3] != t && isThing(one[3]) && things.get(one[3])[5] == 1);
                if (!used.contains(r) && can && inScope(look(5, null), one[1], one[2]).contains(t)) {
                    may.add(r);
                }
            }
            if (may.isEmpty()) {
                break;
            }
            int r = choices[things.get(t)[0]] == 0 ? may.get(0) : may.get(may.size() - 1);
            used.add(r);
            int[] one = rules.get(r);
            if (one[0] == 0) {
                int off = Math.min(n, one[3]);
                n -= off;
                one[3] -= truly ? off : 0;
            } else if (one[0] == 1) {
                int off = n / 2;
                n -= off;
            } else if (one[0] == 2) {
                n = Math.min(999, n + n);
            } else if (one[0] == 3) {
                t = one[3];
            } else {
                things.get(t)[4] = Math.max(0, things.get(t)[4] - (truly ? n : 0));
                n = 0;
            }
        }
        if (truly && n > 0) {
            things.get(t)[4] = Math.min(999, things.get(t)[4] + n);
            setOff(0, Set.of(t), look(5, null));
        }
        return new int[] {t, n, used.size()};
    }

    private int hurt(int t, int n) {
        if (!isThing(t) || out(n, 1, 99)) {
            return -2;
        }
        if (things.get(t)[5] == 0) {
            return -3;
        }
        PlainModel ahead = kept();
        begin();
        wound(t, n, true);
        return finish(ahead);
    }

    private int aim(int t, int n, int what) {
        if (!isThing(t) || out(n, 1, 99) || out(what, 0, 2)) {
            return -2;
        }
        return things.get(t)[5] == 0 ? -3 : wound(t, n, false)[what];
    }

    private int next() {
        PlainModel ahead = kept();
        begin();
        turn = 1 - turn;
        for (int[] e : effects) {
            e[6] = e[6] == 0 ? 0 : e[6] == 1 ? -1 : e[6] - 1;
        }
        effects.removeIf(e -> e[6] == -1);
        for (int w = 0; w < watchers.size(); w++) {
            if (watchers.get(w)[0] == turn && watchers.get(w)[1] == 2) {
                stack.push(new int[] {w, -1});
            }
        }
        return finish(ahead);
    }

    private void begin() {
        stack.clear();
        acts.clear();
        watching = true;
    }

    /** Rules that are used up stay till all is done here, as the document's words say. */
    private int finish(PlainModel ahead) {
        rounds();
        while (!stack.isEmpty()) {
            if (acts.size() == 40) {
                shown = new ArrayList<>(acts);
                restore(ahead);
                watching = false;
                return -5;
            }
            int[] top = stack.pop();
            acts.add(top[0]);
            act(watchers.get(top[0]), top[1]);
            rounds();
        }
        watching = false;
        rules.removeIf(r -> r[0] == 0 && r[3] == 0);
        return acts.size();
    }

    private void act(int[] w, int by) {
        int to = w[3] == -1 ? by : w[3];
        int n = w[4] != 0 ? w[4] : by == -1 ? 0 : now(by, 2);
        if (n <= 0 || !isThing(to) || things.get(to)[5] == 0) {
            return;
        }
        int[] one = things.get(to);
        if (w[2] == 0) {
            wound(to, n, true);
        } else if (w[2] == 1) {
            one[4] = Math.max(0, one[4] - n);
        } else {
            one[2] = Math.min(99, one[2] + n);
            one[3] = Math.min(99, one[3] + n);
        }
    }

    private int feed(int v, int n) {
        if (out(n, 1, 4)) {
            return -2;
        }
        if (tape.length() + n > 120) {
            return -4;
        }
        for (int k = n; k > 0; k--) {
            tape.append((char) (v >>> 8 * (k - 1) & 255));
        }
        return tape.length();
    }

    private int emptyTape() {
        int had = tape.length();
        tape.setLength(0);
        return had;
    }

    private int text() {
        String all = tape.toString();
        tape.setLength(0);
        List<String> tokens = new ArrayList<>();
        List<Integer> places = new ArrayList<>();
        Matcher m = Pattern.compile("[a-z]+|[0-9]+|[^ ]").matcher(all);
        while (m.find()) {
            tokens.add(m.group());
            places.add(m.start());
        }
        tokens.add("");
        places.add(all.length());
        List<int[]> more = new ArrayList<>();
        int at = 0;
        while (true) {
            int how = Arrays.asList(SCOPES).indexOf(tokens.get(at));
            if (how < 0 || effects.size() + more.size() == 10) {
                return -100 - places.get(at);
            }
            at++;
            int x = 0;
            if (how > 0) {
                x = number(tokens.get(at), MOST_X[how]);
                if (x < 0) {
                    return -100 - places.get(at);
                }
                at++;
            }
            int sort = Arrays.asList(DEEDS).indexOf(tokens.get(at));
            if (sort < 0) {
                return -100 - places.get(at);
            }
            at++;
            int[] values = {0, 0};
            for (int k = 0; k < (sort == 5 ? 0 : sort > 2 ? 2 : 1); k++) {
                boolean minus = sort > 2 && tokens.get(at).equals("-");
                at += minus ? 1 : 0;
                int v = number(tokens.get(at), sort > 2 ? 9 : 5);
                if (v < 0) {
                    return -100 - places.get(at);
                }
                values[k] = minus ? -v : v;
                at++;
            }
            more.add(new int[] {sort, how, x, values[0], values[1], -1, 0});
            if (tokens.get(at).isEmpty()) {
                break;
            }
            if (!tokens.get(at).equals(";")) {
                return -100 - places.get(at);
            }
            at++;
        }
        effects.addAll(more);
        rounds();
        return more.size();
    }

    private static int number(String token, int most) {
        if (!token.matches("0*[0-9]")) {
            return -1;
        }
        int v = token.charAt(token.length() - 1) - '0';
        return v > most ? -1 : v;
    }

    private int tell(int e, int s) {
        if (!isOf(effects, e) || out(s, 0, 3)) {
            return -2;
        }
        int[] one = effects.get(e);
        String told = SCOPES[one[1]] + (one[1] == 0 ? "" : " " + one[2]) + " " + DEEDS[one[0]]
            + (one[0] == 5 ? "" : " " + one[3]) + (one[0] == 3 || one[0] == 4 ? " " + one[4] : "");
        sheets[s] = told.chars().toArray();
        bytes[s] = true;
        return told.length();
    }

    private int seed(int v) {
        int was = z;
        z = v;
        return was;
    }

    private int draw() {
        z = z * 1103515245 + 12345;
        return z >>> 16;
    }

    private int deal(int n) {
        if (out(n, 0, 8)) {
            return -2;
        }
        for (int k = 0; k < n && things.size() < 8; k++) {
            things.add(new int[] {draw() % 2, draw() % 6, draw() % 9 + 1, draw() % 9 + 1, 0, 1, 0, 0, 0, 0});
        }
        rounds();
        return things.size();
    }

    private int sheet(int s, int sort, int n) {
        if (out(s, 0, 3) || out(sort, -1, 1) || (sort != -1 && n > 40)) {
            return -2;
        }
        if (sort != -1 && n < 0) {
            return -14;
        }
        sheets[s] = sort == -1 ? null : new int[n];
        bytes[s] = sort == 0;
        return 1;
    }

    private int place(int s, int i) {
        return out(s, 0, 3) ? -2 : sheets[s] == null ? -11 : out(i, 0, sheets[s].length - 1) ? -12 : 0;
    }

    private int write(int s, int i, int v) {
        if (place(s, i) != 0) {
            return place(s, i);
        }
        sheets[s][i] = bytes[s] ? (byte) v : v;
        return 1;
    }

    private int copy(int s, int i, int t, int j, int n) {
        if (out(s, 0, 3) || out(t, 0, 3)) {
            return -2;
        }
        if (sheets[s] == null || sheets[t] == null) {
            return -11;
        }
        if (bytes[s] != bytes[t]) {
            return -13;
        }
        if (n < 0 || i < 0 || j < 0 || (long) i + n > sheets[s].length || (long) j + n > sheets[t].length) {
            return -12;
        }
        int[] were = sheets[s].clone();
        for (int k = 0; k < n; k++) {
            sheets[t][j + k] = were[i + k];
        }
        return n;
    }

    private int keep() {
        image = kept();
        return things.size();
    }

    private int back() {
        if (image == null) {
            return -3;
        }
        restore(image);
        return things.size();
    }

    private PlainModel kept() {
        PlainModel one = new PlainModel();
        one.restore(this);
        return one;
    }

    private void restore(PlainModel from) {
        things = deep(from.things);
        effects = deep(from.effects);
        rules = deep(from.rules);
        watchers = deep(from.watchers);
        choices = from.choices.clone();
        turn = from.turn;
        z = from.z;
    }

    private static List<int[]> deep(List<int[]> row) {
        List<int[]> all = new ArrayList<>();
        row.forEach(one -> all.add(one.clone()));
        return all;
    }

    private int count(int what) {
        switch (what) {
            case 0: return things.size();
            case 1: return bits(look(0, null).keySet());
            case 2: return effects.size();
            case 3: return rules.size();
            case 4: return watchers.size();
            case 5: return turn;
            case 6: return tape.length();
            case 7: return z;
            default: return -2;
        }
    }
}
