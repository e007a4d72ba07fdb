/** Promises 8 to 13: effect, source, lasts, ends, order, depends; the layers. */
public final class EffectsTest {
    private static final Checks c = new Checks();

    public static void main(String[] args) {
        effect();
        layers();
        dependsChangesOrder();
        circle();
        scopesAtTheMoment();
        source();
        lasts();
        ends();
        order();
        depends();
        rounds();
        eightRounds();
        tenEffects();
        c.end();
    }

    private static void effect() {
        LayeredRules x = new LayeredRules();
        int[][] wrong = {{-1, 0, 0, 0, 0}, {6, 0, 0, 0, 0}, {4, -1, 0, 0, 0}, {4, 6, 0, 0, 0}, {4, 1, 2, 0, 0},
            {4, 2, 6, 0, 0}, {4, 3, -1, 0, 0}, {4, 4, 6, 0, 0}, {4, 5, 8, 0, 0}, {0, 0, 0, 6, 0}, {0, 0, 0, -1, 0},
            {1, 0, 0, 6, 0}, {1, 0, 0, -1, 0}, {2, 0, 0, 6, 0}, {2, 0, 0, -1, 0}, {3, 0, 0, 10, 0}, {3, 0, 0, -10, 0},
            {4, 0, 0, 0, 10}, {4, 0, 0, 0, -10}, {5, 0, 0, 10, 0}, {5, 0, 0, 0, -10}, {0, 0, 0, 1, 10}};
        for (int[] w : wrong) {
            c.due("8: BAD", x.effect(w[0], w[1], w[2], w[3], w[4]), LayeredRules.BAD);
        }
        c.due("8: none came", x.count(2), 0);
        for (int e = 0; e < 10; e++) {
            c.due("8: effect", x.effect(4, 0, -7, 9, -9), e);
        }
        c.due("8: FULL", x.effect(4, 0, 0, 0, 0), LayeredRules.FULL);
        c.due("8: BAD ahead of FULL", x.effect(4, 0, 0, 10, 0), LayeredRules.BAD);
        c.due("8: without source", x.source(0, -1), -1);
        c.due("8: for good", x.lasts(0, 0), 0);
    }

    private static void layers() {
        LayeredRules x = new LayeredRules();
        x.thing(0, 0, 7, 50);
        x.effect(5, 0, 0, 0, 0);
        x.effect(4, 0, 0, 1, 2);
        x.effect(3, 0, 0, 3, 9);
        x.effect(2, 0, 0, 1, 0);
        x.effect(1, 2, 4, 1, 0);
        x.effect(0, 0, 0, 4, 0);
        int[] due = {5, 3, 4, 2, 1, 0};
        for (int i = 0; i < 6; i++) {
            c.due("layers: order(" + i + ")", x.order(i), due[i]);
        }
        c.due("layers: type", x.now(0, 0), 4);
        c.due("layers: a mark that comes behind one that goes", x.now(0, 1), 2);
        c.due("layers: force", x.now(0, 2), 11);
        c.due("layers: guard", x.now(0, 3), 4);
    }

    private static void dependsChangesOrder() {
        LayeredRules x = new LayeredRules();
        x.thing(0, 1, 1, 9);
        x.effect(0, 2, 2, 3, 0);
        x.effect(0, 2, 1, 2, 0);
        c.due("order: the second first", x.order(0), 1);
        c.due("order: then the first", x.order(1), 0);
        c.due("order: type", x.now(0, 0), 3);
        x.clear();
        x.thing(0, 0, 1, 9);
        x.effect(1, 3, 1, 2, 0);
        x.effect(1, 3, 0, 1, 0);
        x.effect(1, 0, 0, 0, 0);
        c.due("order: at first 0 depends on none that would change its scope now", x.depends(0, 1), 0);
        c.due("order: 1 depends on 2", x.depends(1, 2), 1);
        c.due("order: 0 is done first", x.order(0), 0);
        c.due("order: then 2", x.order(1), 2);
        c.due("order: then 1", x.order(2), 1);
        c.due("order: marks", x.now(0, 1), 3);
    }

    private static void circle() {
        LayeredRules x = new LayeredRules();
        x.thing(0, 1, 1, 9);
        x.thing(0, 2, 1, 9);
        x.effect(0, 2, 1, 2, 0);
        x.effect(0, 2, 2, 1, 0);
        c.due("circle: 0 on 1", x.depends(0, 1), 1);
        c.due("circle: 1 on 0", x.depends(1, 0), 1);
        c.due("circle: least number", x.order(0), 0);
        c.due("circle: both were 2, and are 1", x.scope(2, 1), 3);
        x.effect(0, 5, 0, 5, 0);
        c.due("circle: one that is free goes first", x.order(0), 2);
        c.due("circle: thing 0", x.now(0, 0), 5);
    }

    private static void scopesAtTheMoment() {
        LayeredRules x = new LayeredRules();
        x.thing(0, 1, 1, 9);
        x.effect(1, 0, 0, 3, 0);
        x.effect(0, 3, 3, 5, 0);
        c.due("moment: no marks in the first layer", x.now(0, 0), 1);
        x.effect(0, 4, 3, 2, 0);
        c.due("moment: all are without marks in the first layer", x.now(0, 0), 2);
        x.effect(4, 3, 3, 4, 0);
        c.due("moment: marks in a later layer", x.now(0, 2), 5);
        x.effect(4, 2, 2, 4, 0);
        c.due("moment: types in a later layer", x.now(0, 2), 9);
        x.effect(4, 4, 3, 4, 0);
        c.due("moment: without", x.now(0, 2), 9);
    }

    private static void source() {
        LayeredRules x = new LayeredRules();
        x.thing(0, 0, 1, 9);
        x.thing(0, 0, 1, 9);
        x.effect(4, 0, 0, 3, 0);
        c.due("9: none at first", x.source(0, 1), -1);
        c.due("9: it was 1", x.source(0, 0), 1);
        c.due("9: it was 0", x.source(0, 1), 0);
        c.due("9: BAD effect", x.source(1, 0), LayeredRules.BAD);
        c.due("9: BAD effect", x.source(-1, 0), LayeredRules.BAD);
        c.due("9: BAD thing", x.source(0, 2), LayeredRules.BAD);
        c.due("9: BAD thing", x.source(0, -2), LayeredRules.BAD);
        c.due("9: it works", x.now(0, 2), 4);
        x.set(1, 4, 9);
        c.due("9: its source is dead", x.now(0, 2), 1);
        c.due("9: it is still there", x.count(2), 1);
        c.due("9: none does something", x.order(-1), 0);
        c.due("9: away from the dead", x.source(0, -1), 1);
        c.due("9: it works again", x.now(0, 2), 4);
        c.due("9: a dead thing as source", x.source(0, 1), -1);
        c.due("9: it does nothing", x.now(0, 2), 1);
    }

    private static void lasts() {
        LayeredRules x = new LayeredRules();
        x.effect(4, 0, 0, 3, 0);
        c.due("10: for good at first", x.lasts(0, 9), 0);
        c.due("10: it was 9", x.lasts(0, 2), 9);
        c.due("10: BAD n", x.lasts(0, 10), LayeredRules.BAD);
        c.due("10: BAD n", x.lasts(0, -1), LayeredRules.BAD);
        c.due("10: BAD effect", x.lasts(1, 1), LayeredRules.BAD);
        c.due("10: BAD effect", x.lasts(-1, 1), LayeredRules.BAD);
        x.next();
        c.due("10: one less by a turn", x.lasts(0, 1), 1);
        x.next();
        c.due("10: gone", x.count(2), 0);
    }

    private static void ends() {
        LayeredRules x = new LayeredRules();
        x.thing(0, 0, 1, 9);
        x.effect(4, 0, 0, 1, 0);
        x.effect(4, 0, 0, 2, 0);
        x.effect(4, 0, 0, 4, 0);
        x.lasts(2, 7);
        c.due("11: BAD", x.ends(3), LayeredRules.BAD);
        c.due("11: BAD", x.ends(-1), LayeredRules.BAD);
        c.due("11: the middle one goes", x.ends(1), 2);
        c.due("11: force", x.now(0, 2), 6);
        c.due("11: the last one has 1 less for a number", x.lasts(1, 7), 7);
        c.due("11: ends", x.ends(0), 1);
        c.due("11: ends", x.ends(0), 0);
        c.due("11: BAD", x.ends(0), LayeredRules.BAD);
        c.due("11: as it came, behind what went", x.effect(4, 0, 0, 1, 0), 0);
        c.due("11: a new one is for good", x.lasts(0, 0), 0);
    }

    private static void order() {
        LayeredRules x = new LayeredRules();
        c.due("12: none", x.order(0), LayeredRules.NONE);
        c.due("12: BAD", x.order(-2), LayeredRules.BAD);
        x.thing(0, 0, 1, 0);
        x.effect(4, 0, 0, 1, 0);
        x.effect(4, 0, 0, 1, 0);
        x.effect(0, 0, 0, 1, 0);
        x.source(0, 0);
        c.due("12: two do something", x.order(-1), 2);
        c.due("12: order(0)", x.order(0), 2);
        c.due("12: order(1)", x.order(1), 1);
        c.due("12: NONE", x.order(2), LayeredRules.NONE);
        c.due("12: NONE", x.order(Integer.MAX_VALUE), LayeredRules.NONE);
        c.due("12: BAD", x.order(Integer.MIN_VALUE), LayeredRules.BAD);
    }

    private static void depends() {
        LayeredRules x = new LayeredRules();
        x.thing(0, 1, 1, 9);
        x.thing(1, 0, 1, 0);
        x.effect(0, 0, 0, 2, 0);
        x.effect(1, 2, 2, 3, 0);
        x.effect(2, 4, 3, 0, 0);
        x.effect(1, 2, 1, 3, 0);
        x.effect(3, 3, 3, 1, 9);
        x.effect(3, 4, 3, 1, 9);
        c.due("13: when the layer begins the type is 2", x.depends(2, 1), 1);
        c.due("13: so of type 1 there is none", x.depends(2, 3), 0);
        c.due("13: no marks go that are not there", x.depends(1, 2), 0);
        c.due("13: sorts 1 and 2 are of one layer", x.depends(3, 2), 0);
        c.due("13: in a later layer none", x.depends(4, 5), 0);
        c.due("13: BAD", x.depends(0, 6), LayeredRules.BAD);
        c.due("13: BAD", x.depends(6, 0), LayeredRules.BAD);
        c.due("13: BAD", x.depends(-1, 0), LayeredRules.BAD);
        c.due("13: BAD", x.depends(0, -1), LayeredRules.BAD);
        c.due("13: BAD one and the same", x.depends(1, 1), LayeredRules.BAD);
        c.due("13: STATE two layers", x.depends(0, 1), LayeredRules.STATE);
        x.source(1, 1);
        c.due("13: STATE the second does nothing", x.depends(2, 1), LayeredRules.STATE);
        c.due("13: STATE the first does nothing", x.depends(1, 2), LayeredRules.STATE);
        c.due("13: BAD ahead of STATE", x.depends(1, 1), LayeredRules.BAD);
    }

    /** Each lives by an effect of the one ahead of it. */
    private static void eightRounds() {
        LayeredRules x = new LayeredRules();
        for (int t = 0; t < 8; t++) {
            x.thing(t % 2, 0, t, 5);
            if (t > 0) {
                x.effect(4, 5, t, 0, 1);
                x.source(t - 1, t - 1);
                x.set(t, 4, 5);
            }
        }
        c.due("rounds: all live", x.count(1), 255);
        c.due("rounds: the first dies", x.set(0, 4, 5), 0);
        c.due("rounds: and all the others, one by one", x.count(1), 0);
        for (int t = 0; t < 8; t++) {
            c.due("rounds: force as it last was", x.now(t, 2), t);
            c.due("rounds: guard as it last was", x.now(t, 3), 5);
        }
        c.due("rounds: no effect does something", x.order(-1), 0);
    }

    private static void tenEffects() {
        LayeredRules x = new LayeredRules();
        x.thing(0, 0, 0, 9);
        for (int e = 0; e < 10; e++) {
            x.effect(4, 0, 0, 9, 9);
        }
        c.due("ten: force", x.now(0, 2), 90);
        c.due("ten: guard", x.now(0, 3), 99);
        c.due("ten: how many", x.order(-1), 10);
        for (int i = 0; i < 10; i++) {
            c.due("ten: order", x.order(i), i);
        }
        x.ends(9);
        x.ends(0);
        x.effect(4, 0, 0, -1, 0);
        x.lasts(8, 5);
        x.effect(4, 0, 0, -2, 0);
        c.due("ten: force", x.now(0, 2), 69);
        c.due("ten: each for itself", x.lasts(9, 0), 0);
        c.due("ten: each for itself", x.lasts(8, 0), 5);
    }

    /** One dies, with it its effect, by which another one lived; and so on. */
    private static void rounds() {
        LayeredRules x = new LayeredRules();
        x.thing(0, 0, 1, 5);
        x.thing(0, 0, 2, 5);
        x.thing(0, 0, 3, 5);
        x.effect(4, 5, 1, 0, 3);
        x.effect(4, 5, 2, 0, 3);
        x.source(0, 0);
        x.source(1, 1);
        x.set(1, 4, 6);
        x.set(2, 4, 7);
        c.due("rounds: all live", x.count(1), 7);
        x.effect(4, 5, 0, 0, -5);
        c.due("rounds: none lives", x.count(1), 0);
        c.due("rounds: guard ahead of its round", x.now(1, 3), 5);
        c.due("rounds: guard ahead of its round", x.now(2, 3), 5);
        c.due("rounds: guard ahead of its round", x.now(0, 3), 0);
    }
}
