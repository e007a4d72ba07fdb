/** Promises 1 to 7: a new object, clear, thing, of, now, set, scope. */
public final class ThingsTest {
    private static final Checks c = new Checks();

    public static void main(String[] args) {
        aNewObject();
        clear();
        thing();
        of();
        now();
        set();
        scope();
        c.end();
    }

    private static void aNewObject() {
        LayeredRules x = new LayeredRules();
        for (int what = 0; what <= 6; what++) {
            c.due("1: count(" + what + ")", x.count(what), 0);
        }
        c.due("1: z", x.count(7), 1);
        c.due("1: shown", x.shown(-1), 0);
        c.due("1: order", x.order(-1), 0);
        c.due("1: choice 0", x.choice(0, 0), 0);
        c.due("1: choice 1", x.choice(1, 0), 0);
        for (int s = 0; s < 4; s++) {
            c.due("1: sheet missing", x.item(s, 0), -11);
        }
        c.due("1: no image", x.back(), LayeredRules.STATE);
    }

    private static void clear() {
        LayeredRules x = new LayeredRules();
        c.due("2: clear of none", x.clear(), 0);
        x.thing(0, 0, 1, 50);
        x.thing(1, 0, 1, 0);
        x.image();
        x.effect(4, 0, 0, 1, 1);
        x.rule(1, 0, 0, 0);
        x.watch(0, 0, 0, -1, 1);
        x.set(0, 3, 99);
        c.due("2: a loop to be forgotten", x.hurt(0, 1), LayeredRules.LOOP);
        c.due("2: shown", x.shown(-1), 40);
        x.choice(0, 1);
        x.choice(1, 1);
        x.unwatch(0);
        x.next();
        x.seed(77);
        x.feed('a', 1);
        x.sheet(2, 1, 3);
        x.write(2, 1, 9);
        c.due("2: clear", x.clear(), 2);
        for (int what = 0; what <= 5; what++) {
            c.due("2: count(" + what + ")", x.count(what), 0);
        }
        c.due("2: the tape stays", x.count(6), 1);
        c.due("2: z stays", x.count(7), 77);
        c.due("2: sheets stay", x.item(2, 1), 9);
        c.due("2: choice is as at first", x.choice(0, 0), 0);
        c.due("2: choice is as at first", x.choice(1, 0), 0);
        c.due("2: shown is as at first", x.shown(-1), 0);
        c.due("2: order", x.order(-1), 0);
        c.due("2: things are numbered from 0 again", x.thing(1, 1, 1, 1), 0);
        c.due("2: the image stays", x.back(), 2);
    }

    private static void thing() {
        LayeredRules x = new LayeredRules();
        int[][] wrong = {{-1, 0, 0, 0}, {2, 0, 0, 0}, {0, -1, 0, 0}, {0, 6, 0, 0}, {0, 0, -1, 0}, {0, 0, 100, 0},
            {0, 0, 0, -1}, {0, 0, 0, 100}, {Integer.MIN_VALUE, 0, 0, 0}, {0, 0, 0, Integer.MAX_VALUE}};
        for (int[] w : wrong) {
            c.due("3: BAD", x.thing(w[0], w[1], w[2], w[3]), LayeredRules.BAD);
        }
        c.due("3: nothing came", x.count(0), 0);
        c.due("3: thing", x.thing(1, 5, 99, 99), 0);
        c.due("3: one without guard dies", x.thing(0, 0, 0, 0), 1);
        c.due("3: alive", x.count(1), 1);
        for (int t = 2; t < 8; t++) {
            c.due("3: thing", x.thing(0, 0, 1, 1), t);
        }
        c.due("3: FULL, the dead too", x.thing(0, 0, 1, 1), LayeredRules.FULL);
        c.due("3: BAD ahead of FULL", x.thing(2, 0, 1, 1), LayeredRules.BAD);
        c.due("3: eight", x.count(0), 8);
    }

    private static void of() {
        LayeredRules x = new LayeredRules();
        x.thing(1, 3, 7, 9);
        x.set(0, 4, 5);
        int[] due = {1, 3, 7, 9, 5, 1};
        for (int what = 0; what <= 5; what++) {
            c.due("4: of(0, " + what + ")", x.of(0, what), due[what]);
        }
        c.due("4: BAD what", x.of(0, 6), LayeredRules.BAD);
        c.due("4: BAD what", x.of(0, -1), LayeredRules.BAD);
        c.due("4: BAD thing", x.of(1, 0), LayeredRules.BAD);
        c.due("4: BAD thing", x.of(-1, 0), LayeredRules.BAD);
        x.effect(0, 0, 0, 4, 0);
        x.effect(4, 0, 0, 2, 2);
        c.due("4: base type", x.of(0, 1), 3);
        c.due("4: base force", x.of(0, 2), 7);
        x.set(0, 4, 11);
        c.due("4: dead", x.of(0, 5), 0);
        c.due("4: wounds of the dead", x.of(0, 4), 11);
    }

    private static void now() {
        LayeredRules x = new LayeredRules();
        x.thing(0, 1, 3, 4);
        c.due("5: type", x.now(0, 0), 1);
        c.due("5: marks", x.now(0, 1), 0);
        c.due("5: force", x.now(0, 2), 3);
        c.due("5: guard", x.now(0, 3), 4);
        x.effect(0, 0, 0, 5, 0);
        x.effect(1, 0, 0, 0, 0);
        x.effect(1, 2, 5, 3, 0);
        x.effect(4, 0, 0, -9, 2);
        c.due("5: type by an effect", x.now(0, 0), 5);
        c.due("5: marks by effects", x.now(0, 1), 9);
        c.due("5: force below 0", x.now(0, 2), -6);
        c.due("5: guard", x.now(0, 3), 6);
        x.set(0, 4, 6);
        c.due("5: it died", x.of(0, 5), 0);
        x.clear();
        x.thing(0, 1, 3, 4);
        x.thing(0, 2, 1, 1);
        x.effect(4, 0, 0, 2, 3);
        x.effect(1, 5, 0, 4, 0);
        x.source(0, 1);
        x.set(0, 4, 7);
        c.due("5: dead by guard 7", x.count(1), 2);
        x.ends(1);
        x.set(1, 4, 9);
        c.due("5: all dead", x.count(1), 0);
        c.due("5: type as it last was", x.now(0, 0), 1);
        c.due("5: marks as it last was", x.now(0, 1), 16);
        c.due("5: force as it last was", x.now(0, 2), 5);
        c.due("5: guard as it last was", x.now(0, 3), 7);
        c.due("5: its own effect, ahead of its round", x.now(1, 3), 4);
        c.due("5: BAD what", x.now(0, 4), LayeredRules.BAD);
        c.due("5: BAD what", x.now(0, -1), LayeredRules.BAD);
        c.due("5: BAD thing", x.now(2, 0), LayeredRules.BAD);
        c.due("5: BAD thing", x.now(-1, 0), LayeredRules.BAD);
    }

    private static void set() {
        LayeredRules x = new LayeredRules();
        x.thing(0, 1, 3, 4);
        c.due("6: type", x.set(0, 1, 5), 1);
        c.due("6: force", x.set(0, 2, 99), 3);
        c.due("6: guard", x.set(0, 3, 99), 4);
        c.due("6: wounds", x.set(0, 4, 98), 0);
        int[] due = {0, 5, 99, 99, 98};
        for (int what = 0; what <= 4; what++) {
            c.due("6: it became so", x.of(0, what), due[what]);
        }
        c.due("6: down to 0", x.set(0, 1, 0), 5);
        c.due("6: down to 0", x.set(0, 2, 0), 99);
        c.due("6: it became so", x.of(0, 1) + x.of(0, 2), 0);
        int[][] wrong = {{0, 0, 0}, {0, 5, 0}, {0, 1, 6}, {0, 1, -1}, {0, 2, 100}, {0, 2, -1}, {0, 3, 100}, {0, 3, -1},
            {0, 4, 1000}, {0, 4, -1}, {1, 1, 1}, {-1, 1, 1}};
        for (int[] w : wrong) {
            c.due("6: BAD", x.set(w[0], w[1], w[2]), LayeredRules.BAD);
        }
        c.due("6: still alive", x.count(1), 1);
        c.due("6: guard down to the wounds", x.set(0, 3, 98), 99);
        c.due("6: it died", x.count(1), 0);
        c.due("6: STATE", x.set(0, 4, 0), LayeredRules.STATE);
        c.due("6: BAD ahead of STATE", x.set(0, 4, 1000), LayeredRules.BAD);
        x.thing(0, 0, 0, 1);
        c.due("6: 999 wounds", x.set(1, 4, 999), 0);
        c.due("6: 999 wounds", x.of(1, 4), 999);
    }

    private static void scope() {
        LayeredRules x = new LayeredRules();
        x.thing(0, 1, 1, 5);
        x.thing(1, 1, 1, 5);
        x.thing(0, 2, 1, 5);
        x.thing(1, 3, 1, 0);
        x.effect(0, 5, 2, 4, 0);
        x.effect(1, 1, 1, 2, 0);
        c.due("7: all", x.scope(0, 99), 7);
        c.due("7: owner 0", x.scope(1, 0), 5);
        c.due("7: owner 1", x.scope(1, 1), 2);
        c.due("7: type 1", x.scope(2, 1), 3);
        c.due("7: type 2 is no more", x.scope(2, 2), 0);
        c.due("7: type 4", x.scope(2, 4), 4);
        c.due("7: with 2", x.scope(3, 2), 2);
        c.due("7: without 2", x.scope(4, 2), 5);
        c.due("7: thing", x.scope(5, 2), 4);
        c.due("7: a dead thing", x.scope(5, 3), 0);
        c.due("7: no such thing", x.scope(5, 7), 0);
        int[][] wrong = {{-1, 0}, {6, 0}, {1, 2}, {1, -1}, {2, 6}, {2, -1}, {3, 6}, {3, -1}, {4, 6}, {4, -1}, {5, 8}, {5, -1}};
        for (int[] w : wrong) {
            c.due("7: BAD", x.scope(w[0], w[1]), LayeredRules.BAD);
        }
    }
}
