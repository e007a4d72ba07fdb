/** Things under rules that last; the document tells each call as a numbered promise. */
public final class LayeredRules {
    public static final int NONE = -1, BAD = -2, STATE = -3, FULL = -4, LOOP = -5;

    private static final int NOTHING_HELD = -11, OUTSIDE = -12, OTHER_SORT = -13, SIZE_BELOW_0 = -14;
    private static final int FAULT_BASE = -100;

    private static final int MOST_THINGS = 8, MOST_EFFECTS = 10, MOST_RULES = 8, MOST_WATCHERS = 8;
    private static final int MOST_ACTS = 40, MOST_BYTES = 120, MOST_NUMBERS = 40, SHEETS = 4;
    private static final int MOST_TYPE = 5, MOST_BASE = 99, MOST_WOUNDS = 999, MOST_HURT = 99;
    private static final int MOST_VALUE = 9, MOST_TURNS = 9;

    /** 41 hurts in a call, each of which sets off 8 at most; 8 things that die, 64; a turn, 8. */
    private static final int STACK_ROOM = 400;

    private static final int ALL = 0, OF_OWNER = 1, OF_TYPE = 2, WITH_MARK = 3, WITHOUT_MARK = 4, ONE_THING = 5;
    private static final int[] MOST_X = {0, 1, 5, 5, 5, 7};

    private static final int IS = 0, GAINS = 1, LOSES = 2, SETS = 3, GETS = 4, SWAPS = 5;
    private static final int[] LAYER_OF = {0, 1, 1, 2, 3, 4};
    private static final int LAYERS = 5;

    private static final int KEEPS_OFF = 0, HALVES = 1, DOUBLES = 2, LEADS = 3, HEALS = 4;
    private static final int WHEN_HURT = 0, WHEN_DEAD = 1, WHEN_TURN = 2;
    private static final int ACT_HURT = 0, ACT_HEAL = 1, ACT_RAISE = 2;

    private static final int MISSING = -1, BYTES = 0, INTS = 1;

    private final Course course = new Course();
    private final World world = course.w;
    private final Look look = course.look;
    private final World ahead = new World();
    private final World kept = new World();
    private boolean hasImage;
    private final Look trial = new Look();
    private final Wound trace = new Wound();
    private final Reader reader = new Reader();
    private final Sheet[] sheets = new Sheet[SHEETS];
    private final int[] shownNumbers = new int[MOST_ACTS];
    private int shownCount;

    public LayeredRules() {
        for (int s = 0; s < SHEETS; s++) {
            sheets[s] = new Sheet();
        }
    }

    // ---- things

    public int clear() {
        int had = world.thingCount;
        world.empty();
        shownCount = 0;
        look.make(world, LAYERS);
        return had;
    }

    public int thing(int owner, int type, int force, int guard) {
        if (!within(owner, 0, 1) || !within(type, 0, MOST_TYPE)) {
            return BAD;
        }
        if (!within(force, 0, MOST_BASE) || !within(guard, 0, MOST_BASE)) {
            return BAD;
        }
        if (world.thingCount >= MOST_THINGS) {
            return FULL;
        }
        int number = world.thingCount;
        world.addThing(owner, type, force, guard);
        course.settle(false);
        return number;
    }

    public int of(int t, int what) {
        if (!world.hasThing(t)) {
            return BAD;
        }
        Thing one = world.things[t];
        switch (what) {
            case 0: return one.owner;
            case 1: return one.type;
            case 2: return one.force;
            case 3: return one.guard;
            case 4: return one.wounds;
            case 5: return one.alive ? 1 : 0;
            default: return BAD;
        }
    }

    public int now(int t, int what) {
        if (!world.hasThing(t)) {
            return BAD;
        }
        Thing one = world.things[t];
        switch (what) {
            case 0: return one.alive ? look.type[t] : one.lastType;
            case 1: return one.alive ? look.marks[t] : one.lastMarks;
            case 2: return look.forceOf(world, t);
            case 3: return one.alive ? look.guard[t] : one.lastGuard;
            default: return BAD;
        }
    }

    public int set(int t, int what, int v) {
        if (!world.hasThing(t) || !fitsBase(what, v)) {
            return BAD;
        }
        Thing one = world.things[t];
        if (!one.alive) {
            return STATE;
        }
        int was = one.change(what, v);
        course.settle(false);
        return was;
    }

    public int scope(int how, int x) {
        if (!isScope(how, x)) {
            return BAD;
        }
        int bits = 0;
        for (int t = 0; t < world.thingCount; t++) {
            if (look.holds(world, t, how, x)) {
                bits |= 1 << t;
            }
        }
        return bits;
    }

    // ---- effects

    public int effect(int sort, int how, int x, int v, int u) {
        if (!within(sort, IS, SWAPS) || !isScope(how, x)) {
            return BAD;
        }
        if (!fitsEffect(sort, v) || !within(u, -MOST_VALUE, MOST_VALUE)) {
            return BAD;
        }
        if (world.effectCount >= MOST_EFFECTS) {
            return FULL;
        }
        int number = world.effectCount;
        world.effects[number].become(sort, how, x, v, u);
        world.effectCount++;
        course.settle(false);
        return number;
    }

    public int source(int e, int t) {
        if (!world.hasEffect(e) || (t != NONE && !world.hasThing(t))) {
            return BAD;
        }
        int was = world.effects[e].source;
        world.effects[e].source = t;
        course.settle(false);
        return was;
    }

    public int lasts(int e, int n) {
        if (!world.hasEffect(e) || !within(n, 0, MOST_TURNS)) {
            return BAD;
        }
        int was = world.effects[e].turns;
        world.effects[e].turns = n;
        return was;
    }

    public int ends(int e) {
        if (!world.hasEffect(e)) {
            return BAD;
        }
        world.dropEffect(e);
        course.settle(false);
        return world.effectCount;
    }

    public int order(int i) {
        if (i < -1) {
            return BAD;
        }
        if (i == -1) {
            return look.doneCount;
        }
        if (i >= look.doneCount) {
            return NONE;
        }
        return look.done[i];
    }

    public int depends(int e, int f) {
        if (!world.hasEffect(e) || !world.hasEffect(f) || e == f) {
            return BAD;
        }
        Effect first = world.effects[e];
        Effect second = world.effects[f];
        if (first.layer() != second.layer() || !world.works(first) || !world.works(second)) {
            return STATE;
        }
        trial.make(world, first.layer());
        return trial.needs(world, first, second) ? 1 : 0;
    }

    // ---- rules, watchers

    public int rule(int sort, int how, int x, int v) {
        if (!within(sort, KEEPS_OFF, HEALS) || !isScope(how, x)) {
            return BAD;
        }
        if (sort == KEEPS_OFF && !within(v, 1, MOST_HURT)) {
            return BAD;
        }
        if (sort == LEADS && !within(v, 0, MOST_THINGS - 1)) {
            return BAD;
        }
        if (world.ruleCount >= MOST_RULES) {
            return FULL;
        }
        int number = world.ruleCount;
        world.rules[number].become(sort, how, x, v);
        world.ruleCount++;
        return number;
    }

    public int ruleOf(int r, int what) {
        if (!world.hasRule(r) || !within(what, 0, 1)) {
            return BAD;
        }
        return what == 0 ? world.rules[r].sort : world.rules[r].v;
    }

    public int unrule(int r) {
        if (!world.hasRule(r)) {
            return BAD;
        }
        world.dropRule(r);
        return world.ruleCount;
    }

    public int choice(int owner, int v) {
        if (!within(owner, 0, 1) || !within(v, 0, 1)) {
            return BAD;
        }
        int was = world.choices[owner];
        world.choices[owner] = v;
        return was;
    }

    public int watch(int owner, int on, int act, int to, int v) {
        if (!within(owner, 0, 1) || !within(on, WHEN_HURT, WHEN_TURN) || !within(act, ACT_HURT, ACT_RAISE)) {
            return BAD;
        }
        if (!within(to, NONE, MOST_THINGS - 1) || !within(v, 0, MOST_VALUE)) {
            return BAD;
        }
        if (world.watcherCount >= MOST_WATCHERS) {
            return FULL;
        }
        int number = world.watcherCount;
        world.watchers[number].become(owner, on, act, to, v);
        world.watcherCount++;
        return number;
    }

    public int watches(int w, int how, int x) {
        if (!world.hasWatcher(w) || !isScope(how, x)) {
            return BAD;
        }
        Watcher one = world.watchers[w];
        int was = one.how;
        one.how = how;
        one.x = x;
        return was;
    }

    public int unwatch(int w) {
        if (!world.hasWatcher(w)) {
            return BAD;
        }
        world.dropWatcher(w);
        return world.watcherCount;
    }

    // ---- what happens

    public int hurt(int t, int n) {
        if (!world.hasThing(t) || !within(n, 1, MOST_HURT)) {
            return BAD;
        }
        if (!world.things[t].alive) {
            return STATE;
        }
        ahead.copyFrom(world);
        course.begin();
        course.strike(t, n);
        return refuseLoop(course.finish());
    }

    public int aim(int t, int n, int what) {
        if (!world.hasThing(t) || !within(n, 1, MOST_HURT) || !within(what, 0, 2)) {
            return BAD;
        }
        if (!world.things[t].alive) {
            return STATE;
        }
        trace.follow(world, look, t, n);
        if (what == 0) {
            return trace.at;
        }
        if (what == 1) {
            return trace.healed ? 0 : trace.left;
        }
        return Integer.bitCount(trace.used);
    }

    public int next() {
        ahead.copyFrom(world);
        course.begin();
        world.turn = 1 - world.turn;
        world.ageEffects();
        course.setOffByTurn();
        return refuseLoop(course.finish());
    }

    public int shown(int i) {
        if (i < -1) {
            return BAD;
        }
        if (i == -1) {
            return shownCount;
        }
        if (i >= shownCount || i >= MOST_ACTS) {
            return NONE;
        }
        return shownNumbers[i];
    }

    // ---- texts

    public int feed(int bytes, int n) {
        if (!within(n, 1, 4)) {
            return BAD;
        }
        if (reader.length > MOST_BYTES - n) {
            return FULL;
        }
        for (int k = n - 1; k >= 0; k--) {
            reader.append((byte) (bytes >> (8 * k)));
        }
        return reader.length;
    }

    public int wipe() {
        int had = reader.length;
        reader.length = 0;
        return had;
    }

    public int text() {
        reader.readAll(MOST_EFFECTS - world.effectCount);
        reader.length = 0;
        if (reader.fault >= 0) {
            return FAULT_BASE - reader.fault;
        }
        for (int p = 0; p < reader.phraseCount && world.effectCount < MOST_EFFECTS; p++) {
            world.effects[world.effectCount].copyFrom(reader.phrases[p]);
            world.effectCount++;
        }
        course.settle(false);
        return reader.phraseCount;
    }

    public int tell(int e, int s) {
        if (!world.hasEffect(e) || !within(s, 0, SHEETS - 1)) {
            return BAD;
        }
        Effect one = world.effects[e];
        Sheet row = sheets[s];
        row.become(BYTES, 0);
        row.appendText(scopeWord(one.how));
        if (one.how != ALL) {
            row.appendValue(one.x);
        }
        row.appendText(" ");
        row.appendText(deedWord(one.sort));
        if (one.sort != SWAPS) {
            row.appendValue(one.v);
        }
        if (one.sort == SETS || one.sort == GETS) {
            row.appendValue(one.u);
        }
        return row.length;
    }

    // ---- draws, sheets, the image

    public int seed(int v) {
        int was = world.z;
        world.z = v;
        return was;
    }

    public int deal(int n) {
        if (!within(n, 0, MOST_THINGS)) {
            return BAD;
        }
        for (int k = 0; k < n && world.thingCount < MOST_THINGS; k++) {
            int owner = world.draw() % 2;
            int type = world.draw() % 6;
            int force = world.draw() % 9 + 1;
            int guard = world.draw() % 9 + 1;
            world.addThing(owner, type, force, guard);
        }
        course.settle(false);
        return world.thingCount;
    }

    public int sheet(int s, int sort, int n) {
        if (!within(s, 0, SHEETS - 1) || !within(sort, MISSING, INTS)) {
            return BAD;
        }
        if (sort == MISSING) {
            sheets[s].become(MISSING, 0);
            return 1;
        }
        if (n > MOST_NUMBERS) {
            return BAD;
        }
        if (n < 0) {
            return SIZE_BELOW_0;
        }
        sheets[s].become(sort, n);
        return 1;
    }

    public int write(int s, int i, int v) {
        int refusal = refusePlace(s, i);
        if (refusal != 0) {
            return refusal;
        }
        sheets[s].numbers[i] = sheets[s].sort == BYTES ? (byte) v : v;
        return 1;
    }

    public int item(int s, int i) {
        int refusal = refusePlace(s, i);
        return refusal != 0 ? refusal : sheets[s].numbers[i];
    }

    public int copy(int s, int i, int t, int j, int n) {
        if (!within(s, 0, SHEETS - 1) || !within(t, 0, SHEETS - 1)) {
            return BAD;
        }
        Sheet from = sheets[s];
        Sheet to = sheets[t];
        if (from.sort == MISSING || to.sort == MISSING) {
            return NOTHING_HELD;
        }
        if (from.sort != to.sort) {
            return OTHER_SORT;
        }
        if (!from.spans(i, n) || !to.spans(j, n)) {
            return OUTSIDE;
        }
        System.arraycopy(from.numbers, i, to.numbers, j, n);
        return n;
    }

    public int image() {
        kept.copyFrom(world);
        hasImage = true;
        return world.thingCount;
    }

    public int back() {
        if (!hasImage) {
            return STATE;
        }
        world.copyFrom(kept);
        look.make(world, LAYERS);
        return world.thingCount;
    }

    public int count(int what) {
        switch (what) {
            case 0: return world.thingCount;
            case 1: return world.aliveBits();
            case 2: return world.effectCount;
            case 3: return world.ruleCount;
            case 4: return world.watcherCount;
            case 5: return world.turn;
            case 6: return reader.length;
            case 7: return world.z;
            default: return BAD;
        }
    }

    // ---- what several calls share

    private int refuseLoop(int acts) {
        if (acts != LOOP) {
            return acts;
        }
        shownCount = MOST_ACTS;
        System.arraycopy(course.doneBy, 0, shownNumbers, 0, MOST_ACTS);
        world.copyFrom(ahead);
        look.make(world, LAYERS);
        return LOOP;
    }

    private int refusePlace(int s, int i) {
        if (!within(s, 0, SHEETS - 1)) {
            return BAD;
        }
        if (sheets[s].sort == MISSING) {
            return NOTHING_HELD;
        }
        return within(i, 0, sheets[s].length - 1) ? 0 : OUTSIDE;
    }

    private static boolean within(int v, int least, int most) {
        return v >= least && v <= most;
    }

    private static boolean isScope(int how, int x) {
        if (!within(how, ALL, ONE_THING)) {
            return false;
        }
        return how == ALL || within(x, 0, MOST_X[how]);
    }

    private static boolean fitsBase(int what, int v) {
        switch (what) {
            case 1: return within(v, 0, MOST_TYPE);
            case 2: return within(v, 0, MOST_BASE);
            case 3: return within(v, 0, MOST_BASE);
            case 4: return within(v, 0, MOST_WOUNDS);
            default: return false;
        }
    }

    private static boolean fitsEffect(int sort, int v) {
        return sort <= LOSES ? within(v, 0, MOST_TYPE) : within(v, -MOST_VALUE, MOST_VALUE);
    }

    private static String scopeWord(int how) {
        switch (how) {
            case ALL: return "all";
            case OF_OWNER: return "owner";
            case OF_TYPE: return "type";
            case WITH_MARK: return "with";
            case WITHOUT_MARK: return "without";
            default: return "thing";
        }
    }

    private static String deedWord(int sort) {
        switch (sort) {
            case IS: return "is";
            case GAINS: return "gains";
            case LOSES: return "loses";
            case SETS: return "sets";
            case GETS: return "gets";
            default: return "swaps";
        }
    }

    private static final class Thing {
        int owner;
        int type;
        int force;
        int guard;
        int wounds;
        boolean alive;
        int lastType;
        int lastMarks;
        int lastForce;
        int lastGuard;

        void become(int newOwner, int newType, int newForce, int newGuard) {
            owner = newOwner;
            type = newType;
            force = newForce;
            guard = newGuard;
            wounds = 0;
            alive = true;
            lastType = 0;
            lastMarks = 0;
            lastForce = 0;
            lastGuard = 0;
        }

        int change(int what, int v) {
            int was;
            switch (what) {
                case 1:
                    was = type;
                    type = v;
                    return was;
                case 2:
                    was = force;
                    force = v;
                    return was;
                case 3:
                    was = guard;
                    guard = v;
                    return was;
                default:
                    was = wounds;
                    wounds = v;
                    return was;
            }
        }

        void heal(int n) {
            wounds = Math.max(0, wounds - n);
        }

        void raise(int n) {
            force = Math.min(MOST_BASE, force + n);
            guard = Math.min(MOST_BASE, guard + n);
        }

        void copyFrom(Thing other) {
            owner = other.owner;
            type = other.type;
            force = other.force;
            guard = other.guard;
            wounds = other.wounds;
            alive = other.alive;
            lastType = other.lastType;
            lastMarks = other.lastMarks;
            lastForce = other.lastForce;
            lastGuard = other.lastGuard;
        }
    }

    private static final class Effect {
        int source;
        int sort;
        int how;
        int x;
        int v;
        int u;
        int turns;

        void become(int newSort, int newHow, int newX, int newV, int newU) {
            source = NONE;
            sort = newSort;
            how = newHow;
            x = newX;
            v = newV;
            u = newU;
            turns = 0;
        }

        int layer() {
            return within(sort, IS, SWAPS) ? LAYER_OF[sort] : LAYERS;
        }

        void copyFrom(Effect other) {
            source = other.source;
            sort = other.sort;
            how = other.how;
            x = other.x;
            v = other.v;
            u = other.u;
            turns = other.turns;
        }
    }

    private static final class Rule {
        int sort;
        int how;
        int x;
        int v;

        void become(int newSort, int newHow, int newX, int newV) {
            sort = newSort;
            how = newHow;
            x = newX;
            v = newV;
        }

        void copyFrom(Rule other) {
            become(other.sort, other.how, other.x, other.v);
        }
    }

    private static final class Watcher {
        int owner;
        int on;
        int act;
        int to;
        int v;
        int how;
        int x;

        void become(int newOwner, int newOn, int newAct, int newTo, int newV) {
            owner = newOwner;
            on = newOn;
            act = newAct;
            to = newTo;
            v = newV;
            how = ALL;
            x = 0;
        }

        void copyFrom(Watcher other) {
            become(other.owner, other.on, other.act, other.to, other.v);
            how = other.how;
            x = other.x;
        }
    }

    /** All that THE IMAGE keeps, so that a kept image and a refused LOOP are plain copies. */
    private static final class World {
        final Thing[] things = new Thing[MOST_THINGS];
        int thingCount;
        final Effect[] effects = new Effect[MOST_EFFECTS];
        int effectCount;
        final Rule[] rules = new Rule[MOST_RULES];
        int ruleCount;
        final Watcher[] watchers = new Watcher[MOST_WATCHERS];
        int watcherCount;
        final int[] choices = new int[2];
        int turn;
        int z = 1;

        World() {
            for (int i = 0; i < MOST_THINGS; i++) {
                things[i] = new Thing();
            }
            for (int i = 0; i < MOST_EFFECTS; i++) {
                effects[i] = new Effect();
            }
            for (int i = 0; i < MOST_RULES; i++) {
                rules[i] = new Rule();
            }
            for (int i = 0; i < MOST_WATCHERS; i++) {
                watchers[i] = new Watcher();
            }
        }

        /** z stays, as the document asks of clear(). */
        void empty() {
            thingCount = 0;
            effectCount = 0;
            ruleCount = 0;
            watcherCount = 0;
            choices[0] = 0;
            choices[1] = 0;
            turn = 0;
        }

        void copyFrom(World other) {
            thingCount = other.thingCount;
            effectCount = other.effectCount;
            ruleCount = other.ruleCount;
            watcherCount = other.watcherCount;
            for (int i = 0; i < thingCount && i < MOST_THINGS; i++) {
                things[i].copyFrom(other.things[i]);
            }
            for (int i = 0; i < effectCount && i < MOST_EFFECTS; i++) {
                effects[i].copyFrom(other.effects[i]);
            }
            for (int i = 0; i < ruleCount && i < MOST_RULES; i++) {
                rules[i].copyFrom(other.rules[i]);
            }
            for (int i = 0; i < watcherCount && i < MOST_WATCHERS; i++) {
                watchers[i].copyFrom(other.watchers[i]);
            }
            choices[0] = other.choices[0];
            choices[1] = other.choices[1];
            turn = other.turn;
            z = other.z;
        }

        boolean hasThing(int t) {
            return within(t, 0, thingCount - 1);
        }

        boolean hasEffect(int e) {
            return within(e, 0, effectCount - 1);
        }

        boolean hasRule(int r) {
            return within(r, 0, ruleCount - 1);
        }

        boolean hasWatcher(int w) {
            return within(w, 0, watcherCount - 1);
        }

        boolean isAlive(int t) {
            return t >= 0 && t < thingCount && things[t].alive;
        }

        boolean works(Effect one) {
            return one.source == NONE || isAlive(one.source);
        }

        int aliveBits() {
            int bits = 0;
            for (int t = 0; t < thingCount; t++) {
                if (things[t].alive) {
                    bits |= 1 << t;
                }
            }
            return bits;
        }

        /** Effects of a layer that do something, as bits. */
        int workingIn(int layer) {
            int bits = 0;
            for (int e = 0; e < effectCount; e++) {
                if (effects[e].layer() == layer && works(effects[e])) {
                    bits |= 1 << e;
                }
            }
            return bits;
        }

        void addThing(int owner, int type, int force, int guard) {
            if (thingCount < MOST_THINGS) {
                things[thingCount].become(owner, type, force, guard);
                thingCount++;
            }
        }

        /** What goes is put behind the others, to be used again. */
        void dropEffect(int e) {
            if (!hasEffect(e)) {
                return;
            }
            Effect gone = effects[e];
            for (int i = e; i < effectCount - 1; i++) {
                effects[i] = effects[i + 1];
            }
            effectCount--;
            effects[effectCount] = gone;
        }

        void dropRule(int r) {
            if (!hasRule(r)) {
                return;
            }
            Rule gone = rules[r];
            for (int i = r; i < ruleCount - 1; i++) {
                rules[i] = rules[i + 1];
            }
            ruleCount--;
            rules[ruleCount] = gone;
        }

        void dropWatcher(int w) {
            if (!hasWatcher(w)) {
                return;
            }
            Watcher gone = watchers[w];
            for (int i = w; i < watcherCount - 1; i++) {
                watchers[i] = watchers[i + 1];
            }
            watcherCount--;
            watchers[watcherCount] = gone;
        }

        /** From the last one down, so that one that goes renumbers none that is still to come. */
        void ageEffects() {
            for (int e = effectCount - 1; e >= 0; e--) {
                if (effects[e].turns > 0) {
                    effects[e].turns--;
                    if (effects[e].turns == 0) {
                        dropEffect(e);
                    }
                }
            }
        }

        int draw() {
            z = z * 1103515245 + 12345;
            return z >>> 16;
        }
    }

    /** What the living things are by the effects, and the order in which these were done. */
    private static final class Look {
        final int[] type = new int[MOST_THINGS];
        final int[] marks = new int[MOST_THINGS];
        final int[] force = new int[MOST_THINGS];
        final int[] guard = new int[MOST_THINGS];
        final int[] done = new int[MOST_EFFECTS];
        int doneCount;

        /** Does the first layers alone, for depends() asks how all is when a layer begins. */
        void make(World w, int layers) {
            for (int t = 0; t < w.thingCount; t++) {
                type[t] = w.things[t].type;
                marks[t] = 0;
                force[t] = w.things[t].force;
                guard[t] = w.things[t].guard;
            }
            doneCount = 0;
            for (int layer = 0; layer < layers && layer < LAYERS; layer++) {
                int open = w.workingIn(layer);
                for (int step = 0; step < MOST_EFFECTS && open != 0; step++) {
                    int e = pick(w, open);
                    perform(w, w.effects[e]);
                    record(e);
                    open &= ~(1 << e);
                }
            }
        }

        private void record(int e) {
            if (doneCount < MOST_EFFECTS) {
                done[doneCount] = e;
                doneCount++;
            }
        }

        /** One of the open ones (there is one at least), so its number is below effectCount. */
        private int pick(World w, int open) {
            for (int e = 0; e < w.effectCount; e++) {
                boolean free = (open >> e & 1) != 0;
                for (int f = 0; free && f < w.effectCount; f++) {
                    boolean other = f != e && (open >> f & 1) != 0;
                    free = !other || !needs(w, w.effects[e], w.effects[f]);
                }
                if (free) {
                    return e;
                }
            }
            return Math.min(Integer.numberOfTrailingZeros(open), MOST_EFFECTS - 1);
        }

        /** Whether other things would be in the scope of e, if f were done now. */
        boolean needs(World w, Effect e, Effect f) {
            for (int t = 0; t < w.thingCount; t++) {
                if (holds(w, t, f.how, f.x)) {
                    int typeThen = typeUnder(f, t);
                    int marksThen = marksUnder(f, t);
                    if (holds(w, t, e.how, e.x) != fits(w.things[t], t, e.how, e.x, typeThen, marksThen)) {
                        return true;
                    }
                }
            }
            return false;
        }

        private int typeUnder(Effect f, int t) {
            return f.sort == IS ? f.v : type[t];
        }

        private int marksUnder(Effect f, int t) {
            if (f.sort == GAINS) {
                return marks[t] | 1 << f.v;
            }
            return f.sort == LOSES ? marks[t] & ~(1 << f.v) : marks[t];
        }

        /** In place: whether a thing is in a scope hangs on that thing alone. */
        private void perform(World w, Effect f) {
            for (int t = 0; t < w.thingCount; t++) {
                if (holds(w, t, f.how, f.x)) {
                    type[t] = typeUnder(f, t);
                    marks[t] = marksUnder(f, t);
                    changeStrength(f, t);
                }
            }
        }

        private void changeStrength(Effect f, int t) {
            if (f.sort == SETS) {
                force[t] = f.v;
                guard[t] = f.u;
            } else if (f.sort == GETS) {
                force[t] += f.v;
                guard[t] += f.u;
            } else if (f.sort == SWAPS) {
                int was = force[t];
                force[t] = guard[t];
                guard[t] = was;
            }
        }

        boolean holds(World w, int t, int how, int x) {
            return t >= 0 && t < w.thingCount && fits(w.things[t], t, how, x, type[t], marks[t]);
        }

        /** By a type and marks that are told, for needs() asks of such as are not so yet. */
        private static boolean fits(Thing one, int t, int how, int x, int typeThen, int marksThen) {
            if (!one.alive) {
                return false;
            }
            switch (how) {
                case ALL: return true;
                case OF_OWNER: return one.owner == x;
                case OF_TYPE: return typeThen == x;
                case WITH_MARK: return (marksThen >> x & 1) != 0;
                case WITHOUT_MARK: return (marksThen >> x & 1) == 0;
                default: return t == x;
            }
        }

        /** FORCE of a thing as it last was; 0 for one that isn't there. */
        int forceOf(World w, int t) {
            if (!w.hasThing(t)) {
                return 0;
            }
            return w.things[t].alive ? force[t] : w.things[t].lastForce;
        }

        void remember(Thing one, int t) {
            if (within(t, 0, MOST_THINGS - 1)) {
                one.lastType = type[t];
                one.lastMarks = marks[t];
                one.lastForce = force[t];
                one.lastGuard = guard[t];
            }
        }
    }

    /** The way of wounds through the rules; it changes nothing, so that aim() can ask it too. */
    private static final class Wound {
        int at;
        int left;
        boolean healed;
        int used;
        final int[] keptOff = new int[MOST_RULES];

        void follow(World w, Look look, int t, int n) {
            at = t;
            left = n;
            healed = false;
            used = 0;
            for (int step = 0; step < MOST_RULES && left > 0 && !healed; step++) {
                int r = pickRule(w, look);
                if (r == NONE) {
                    return;
                }
                used |= 1 << r;
                meet(w.rules[r], r);
            }
        }

        private int pickRule(World w, Look look) {
            int found = NONE;
            boolean greatest = w.isAlive(at) && w.choices[w.things[at].owner] == 1;
            for (int r = 0; r < w.ruleCount; r++) {
                Rule one = w.rules[r];
                boolean leads = one.sort != LEADS || (one.v != at && w.isAlive(one.v));
                if (leads && (used >> r & 1) == 0 && look.holds(w, at, one.how, one.x)) {
                    if (!greatest) {
                        return r;
                    }
                    found = r;
                }
            }
            return found;
        }

        private void meet(Rule one, int r) {
            keptOff[r] = 0;
            switch (one.sort) {
                case KEEPS_OFF:
                    keptOff[r] = Math.min(one.v, left);
                    left -= keptOff[r];
                    break;
                case HALVES:
                    left -= left / 2;
                    break;
                case DOUBLES:
                    left = Math.min(MOST_WOUNDS, left * 2);
                    break;
                case LEADS:
                    at = one.v;
                    break;
                default:
                    healed = true;
                    break;
            }
        }
    }

    /** What happens: wounds, rounds of dying, the stack. */
    private static final class Course {
        final World w = new World();
        final Look look = new Look();
        private final Wound wound = new Wound();
        private final int[] stackWatcher = new int[STACK_ROOM];
        private final int[] stackThing = new int[STACK_ROOM];
        private int top;
        final int[] doneBy = new int[MOST_ACTS];

        void begin() {
            top = 0;
        }

        /** Rounds till none dies; each but the last takes one thing at least, so the bound is enough. */
        void settle(boolean watched) {
            for (int round = 0; round <= MOST_THINGS; round++) {
                look.make(w, LAYERS);
                int dying = dyingBits();
                if (dying == 0) {
                    return;
                }
                if (watched) {
                    setOff(WHEN_DEAD, dying);
                }
                bury(dying);
            }
        }

        private int dyingBits() {
            int bits = 0;
            for (int t = 0; t < w.thingCount; t++) {
                if (w.things[t].alive && w.things[t].wounds >= look.guard[t]) {
                    bits |= 1 << t;
                }
            }
            return bits;
        }

        private void bury(int dying) {
            for (int t = 0; t < w.thingCount; t++) {
                if ((dying >> t & 1) != 0) {
                    look.remember(w.things[t], t);
                    w.things[t].alive = false;
                }
            }
        }

        void setOffByTurn() {
            for (int i = 0; i < w.watcherCount; i++) {
                if (w.watchers[i].owner == w.turn && w.watchers[i].on == WHEN_TURN) {
                    push(i, NONE);
                }
            }
        }

        private void setOff(int on, int bits) {
            setOffOf(w.turn, on, bits);
            setOffOf(1 - w.turn, on, bits);
        }

        private void setOffOf(int owner, int on, int bits) {
            for (int i = 0; i < w.watcherCount; i++) {
                Watcher one = w.watchers[i];
                if (one.owner == owner && one.on == on) {
                    for (int t = 0; t < w.thingCount; t++) {
                        if ((bits >> t & 1) != 0 && look.holds(w, t, one.how, one.x)) {
                            push(i, t);
                        }
                    }
                }
            }
        }

        private void push(int watcher, int t) {
            if (top >= 0 && top < STACK_ROOM) {
                stackWatcher[top] = watcher;
                stackThing[top] = t;
                top++;
            }
        }

        void strike(int t, int n) {
            wound.follow(w, look, t, n);
            spendRules();
            if (!w.hasThing(wound.at)) {
                return;
            }
            Thing one = w.things[wound.at];
            if (wound.healed) {
                one.heal(wound.left);
            } else if (wound.left > 0) {
                one.wounds = Math.min(MOST_WOUNDS, one.wounds + wound.left);
                setOff(WHEN_HURT, 1 << wound.at);
            }
        }

        /** A rule spent to 0 may go at once: it would keep nothing off till the call is done. */
        private void spendRules() {
            for (int r = w.ruleCount - 1; r >= 0; r--) {
                Rule one = w.rules[r];
                if (one.sort == KEEPS_OFF && (wound.used >> r & 1) != 0) {
                    one.v -= wound.keptOff[r];
                    if (one.v <= 0) {
                        w.dropRule(r);
                    }
                }
            }
        }

        /** Goes through the stack: how many acts, or LOOP if it isn't empty behind the most there may be. */
        int finish() {
            settle(true);
            int acts = 0;
            for (int step = 0; step < MOST_ACTS && within(top, 1, STACK_ROOM); step++) {
                top--;
                doneBy[step] = stackWatcher[top];
                act(stackWatcher[top], stackThing[top]);
                settle(true);
                acts++;
            }
            return top > 0 ? LOOP : acts;
        }

        private void act(int watcher, int cause) {
            if (!w.hasWatcher(watcher)) {
                return;
            }
            Watcher one = w.watchers[watcher];
            int to = one.to == NONE ? cause : one.to;
            int n = one.v > 0 ? one.v : look.forceOf(w, cause);
            if (n <= 0 || !w.isAlive(to)) {
                return;
            }
            if (one.act == ACT_HURT) {
                strike(to, n);
            } else if (one.act == ACT_HEAL) {
                w.things[to].heal(n);
            } else {
                w.things[to].raise(n);
            }
        }
    }

    /** THE TAPE, and how a TEXT is read from it. */
    private static final class Reader {
        private static final int END = 0, WORD = 1, NUMBER = 2, SEMICOLON = 3, MINUS = 4, BROKEN = 5;

        private final byte[] tape = new byte[MOST_BYTES];
        int length;
        private int place;
        private int kind;
        private int start;
        private int value;
        final Effect[] phrases = new Effect[MOST_EFFECTS];
        int phraseCount;
        int fault;

        Reader() {
            for (int p = 0; p < MOST_EFFECTS; p++) {
                phrases[p] = new Effect();
            }
        }

        void append(byte one) {
            if (length < MOST_BYTES) {
                tape[length] = one;
                length++;
            }
        }

        /** fault is NONE behind it, if the tape is a text for which there is room. */
        void readAll(int room) {
            place = 0;
            fault = NONE;
            phraseCount = 0;
            for (int p = 0; p <= MOST_EFFECTS; p++) {
                readPhrase(p < room);
                if (fault != NONE) {
                    return;
                }
                advance();
                if (kind == END) {
                    return;
                }
                if (kind != SEMICOLON) {
                    fault = start;
                    return;
                }
            }
        }

        private void readPhrase(boolean hasRoom) {
            advance();
            int how = kind == WORD ? scopeOfWord() : NONE;
            if (how == NONE || !hasRoom || phraseCount >= MOST_EFFECTS) {
                fault = start;
                return;
            }
            int x = how == ALL ? 0 : readNumber(MOST_X[how]);
            if (fault != NONE) {
                return;
            }
            advance();
            int sort = kind == WORD ? sortOfWord() : NONE;
            if (sort == NONE) {
                fault = start;
                return;
            }
            int v = readFirst(sort);
            int u = fault == NONE && (sort == SETS || sort == GETS) ? readValue() : 0;
            if (fault == NONE) {
                phrases[phraseCount].become(sort, how, x, v, u);
                phraseCount++;
            }
        }

        private int readFirst(int sort) {
            if (sort == SWAPS) {
                return 0;
            }
            return sort <= LOSES ? readNumber(MOST_TYPE) : readValue();
        }

        private int readNumber(int most) {
            advance();
            return numberHere(most);
        }

        private int readValue() {
            advance();
            if (kind != MINUS) {
                return numberHere(MOST_VALUE);
            }
            advance();
            return -numberHere(MOST_VALUE);
        }

        private int numberHere(int most) {
            if (kind == NUMBER && value <= most) {
                return value;
            }
            fault = start;
            return 0;
        }

        private int scopeOfWord() {
            for (int how = ALL; how <= ONE_THING; how++) {
                if (isWord(scopeWord(how))) {
                    return how;
                }
            }
            return NONE;
        }

        private int sortOfWord() {
            for (int sort = IS; sort <= SWAPS; sort++) {
                if (isWord(deedWord(sort))) {
                    return sort;
                }
            }
            return NONE;
        }

        private boolean isWord(String word) {
            if (place - start != word.length()) {
                return false;
            }
            for (int i = 0; i < word.length(); i++) {
                if (byteAt(start + i) != word.charAt(i)) {
                    return false;
                }
            }
            return true;
        }

        /** 0, which begins no token, where the tape has ended. */
        private int byteAt(int i) {
            return i >= 0 && i < length && i < MOST_BYTES ? tape[i] : 0;
        }

        /** Beyond 9 no value can stand anywhere, so it is held at 10, however many digits come. */
        private void advance() {
            while (place < length && byteAt(place) == ' ') {
                place++;
            }
            start = place;
            kind = place < length ? kindOf(byteAt(place)) : END;
            value = 0;
            boolean goesOn = kind != END;
            while (goesOn && place < length) {
                if (kind == NUMBER) {
                    value = Math.min(MOST_VALUE + 1, value * 10 + byteAt(place) - '0');
                }
                place++;
                goesOn = (kind == WORD || kind == NUMBER) && kindOf(byteAt(place)) == kind;
            }
        }

        private static int kindOf(int one) {
            if (one >= 'a' && one <= 'z') {
                return WORD;
            }
            if (one >= '0' && one <= '9') {
                return NUMBER;
            }
            if (one == ';') {
                return SEMICOLON;
            }
            return one == '-' ? MINUS : BROKEN;
        }
    }

    /** A row of numbers; its room is made once, and its length told apart from it. */
    private static final class Sheet {
        int sort = MISSING;
        int length;
        final int[] numbers = new int[MOST_NUMBERS];

        void become(int newSort, int newLength) {
            sort = newSort;
            length = newLength;
            for (int i = 0; i < MOST_NUMBERS; i++) {
                numbers[i] = 0;
            }
        }

        boolean spans(int from, int n) {
            return n >= 0 && n <= length && within(from, 0, length - n);
        }

        void appendText(String more) {
            for (int i = 0; i < more.length(); i++) {
                appendSign(more.charAt(i));
            }
        }

        /** A blank and a value of one digit. */
        void appendValue(int v) {
            appendSign(' ');
            if (v < 0) {
                appendSign('-');
            }
            appendSign((char) ('0' + Math.abs(v)));
        }

        private void appendSign(char sign) {
            if (length < MOST_NUMBERS) {
                numbers[length] = (byte) sign;
                length++;
            }
        }
    }
}
