/** Promises 21, 23, 24: hurt, next, shown; watchers, the stack, rounds, LOOP. */
public final class HappeningsTest {
    private static final Checks c = new Checks();

    public static void main(String[] args) {
        refusals();
        rulesOfSort0();
        healedInstead();
        ledElsewhere();
        orderOnTheStack();
        dyingTogether();
        scopesAheadOfTheRound();
        byForce();
        raised();
        nothingComes();
        turns();
        turnAndDying();
        otherCallsSetOffNone();
        fortyActs();
        loop();
        c.end();
    }

    private static void refusals() {
        LayeredRules x = new LayeredRules();
        x.thing(0, 0, 1, 0);
        x.thing(0, 0, 1, 9);
        c.due("21: BAD", x.hurt(2, 1), LayeredRules.BAD);
        c.due("21: BAD", x.hurt(-1, 1), LayeredRules.BAD);
        c.due("21: BAD", x.hurt(1, 0), LayeredRules.BAD);
        c.due("21: BAD", x.hurt(1, 100), LayeredRules.BAD);
        c.due("21: STATE", x.hurt(0, 1), LayeredRules.STATE);
        c.due("21: BAD ahead of STATE", x.hurt(0, 0), LayeredRules.BAD);
        c.due("21: no acts", x.hurt(1, 8), 0);
        c.due("21: wounds", x.of(1, 4), 8);
        c.due("21: alive", x.of(1, 5), 1);
        c.due("21: as many as guard", x.hurt(1, 1), 0);
        c.due("21: dead", x.of(1, 5), 0);
        c.due("24: no loop", x.shown(-1), 0);
        c.due("24: NONE", x.shown(0), LayeredRules.NONE);
        c.due("24: BAD", x.shown(-2), LayeredRules.BAD);
    }

    private static void rulesOfSort0() {
        LayeredRules x = new LayeredRules();
        x.thing(0, 0, 1, 99);
        x.rule(0, 0, 0, 5);
        x.rule(0, 0, 0, 9);
        x.hurt(0, 3);
        c.due("21: 3 of 5 are used up", x.ruleOf(0, 1), 2);
        c.due("21: the other is untouched", x.ruleOf(1, 1), 9);
        c.due("21: no wounds", x.of(0, 4), 0);
        x.hurt(0, 4);
        c.due("21: the rule at 0 goes", x.count(3), 1);
        c.due("21: 2 of 9", x.ruleOf(0, 1), 7);
        x.hurt(0, 50);
        c.due("21: none is left", x.count(3), 0);
        c.due("21: wounds", x.of(0, 4), 43);
        for (int r = 0; r < 8; r++) {
            x.rule(2, 0, 0, 0);
        }
        x.hurt(0, 99);
        c.due("21: 999 wounds at most", x.of(0, 4), 999);
        x.clear();
        x.thing(0, 0, 1, 99);
        for (int v = 1; v <= 3; v++) {
            x.rule(0, 0, 0, v);
        }
        x.choice(0, 1);
        x.hurt(0, 4);
        c.due("21: the greatest goes, of the next one 1", x.count(3), 2);
        c.due("21: untouched", x.ruleOf(0, 1), 1);
        c.due("21: 1 left", x.ruleOf(1, 1), 1);
        x.hurt(0, 2);
        c.due("21: both go", x.count(3), 0);
        c.due("21: no wounds", x.of(0, 4), 0);
    }

    private static void healedInstead() {
        LayeredRules x = new LayeredRules();
        x.thing(0, 0, 1, 99);
        x.set(0, 4, 10);
        x.watch(0, 0, 2, -1, 5);
        x.rule(4, 0, 0, 0);
        c.due("21: healed sets nothing off", x.hurt(0, 4), 0);
        c.due("21: wounds less", x.of(0, 4), 6);
        c.due("21: healed", x.hurt(0, 99), 0);
        c.due("21: 0 at least", x.of(0, 4), 0);
        x.unrule(0);
        x.rule(0, 0, 0, 9);
        c.due("21: all kept off sets nothing off", x.hurt(0, 4), 0);
        c.due("21: the rest sets off", x.hurt(0, 6), 1);
        c.due("21: raised", x.of(0, 2), 6);
    }

    private static void ledElsewhere() {
        LayeredRules x = new LayeredRules();
        x.thing(0, 0, 1, 99);
        x.thing(1, 0, 2, 99);
        x.rule(3, 5, 0, 1);
        x.watch(0, 0, 1, -1, 1);
        c.due("21: the other one was hurt", x.hurt(0, 7), 1);
        c.due("21: none for 0", x.of(0, 4), 0);
        c.due("21: one of 7 is healed where it came", x.of(1, 4), 6);
        x.watches(0, 5, 0);
        c.due("21: 0 wasn't hurt", x.hurt(0, 7), 0);
        c.due("21: wounds", x.of(1, 4), 13);
    }

    /** Raised by 1 to 3 and hurt by it, force tells who came first: v 0 reads FORCE at that moment. */
    private static void orderOnTheStack() {
        LayeredRules x = new LayeredRules();
        x.thing(0, 0, 1, 99);
        x.watch(0, 0, 2, 1, 1);
        x.watch(1, 0, 2, 1, 1);
        x.watch(0, 0, 2, 1, 1);
        x.watch(1, 0, 2, 1, 1);
        x.thing(0, 0, 0, 99);
        for (int w = 0; w < 4; w++) {
            x.watches(w, 5, 0);
        }
        c.due("stack: four acts", x.hurt(0, 1), 4);
        x.watch(0, 0, 0, 0, 1);
        c.due("stack: a loop", x.hurt(0, 1), LayeredRules.LOOP);
        int[] due = {3, 1, 4, 3, 1, 4};
        for (int i = 0; i < due.length; i++) {
            c.due("stack: turn of 0, topmost are those of 1", x.shown(i), due[i]);
        }
        x.unwatch(4);
        x.next();
        x.watch(0, 0, 0, 0, 1);
        c.due("stack: a loop", x.hurt(0, 1), LayeredRules.LOOP);
        c.due("stack: turn of 1, topmost are those of 0", x.shown(0), 4);
        c.due("stack: and so on", x.shown(39), 4);
        x.unwatch(4);
        x.watch(1, 0, 0, 0, 1);
        c.due("stack: a loop", x.hurt(0, 1), LayeredRules.LOOP);
        int[] later = {2, 0, 4, 2, 0, 4};
        for (int i = 0; i < later.length; i++) {
            c.due("stack: turn of 1, first those of 0", x.shown(i), later[i]);
        }
    }

    private static void dyingTogether() {
        LayeredRules x = new LayeredRules();
        x.thing(0, 0, 5, 1);
        x.thing(0, 0, 7, 1);
        x.thing(1, 0, 0, 99);
        x.effect(4, 1, 0, 0, 5);
        x.source(0, 2);
        x.set(0, 4, 1);
        x.set(1, 4, 1);
        c.due("dying: all live", x.count(1), 7);
        x.watch(0, 1, 2, 2, 0);
        x.watches(0, 1, 0);
        x.set(2, 3, 1);
        x.thing(1, 0, 0, 90);
        x.watch(0, 1, 0, 3, 0);
        c.due("dying: 2, then 0 and 1 together; watcher 0 by two, watcher 1 by three", x.hurt(2, 1), 5);
        c.due("dying: 3 is left", x.count(1), 8);
        c.due("dying: hurt by the force of 0 and of 1, and of 2, which is 0", x.of(3, 4), 12);
    }

    /** The mark comes from one that dies in the same round: the scope is as all was ahead of it. */
    private static void scopesAheadOfTheRound() {
        LayeredRules x = new LayeredRules();
        x.thing(0, 0, 1, 3);
        x.thing(0, 0, 1, 3);
        x.thing(0, 0, 1, 50);
        x.effect(1, 5, 1, 2, 0);
        x.source(0, 0);
        x.effect(4, 5, 1, 0, -9);
        c.due("ahead: 1 died with the mark", x.now(1, 1), 4);
        x.clear();
        x.thing(0, 0, 1, 3);
        x.thing(0, 0, 1, 3);
        x.thing(0, 0, 1, 50);
        x.effect(1, 5, 0, 2, 0);
        x.source(0, 0);
        x.watch(0, 1, 0, 2, 5);
        x.watches(0, 3, 2);
        c.due("ahead: one with the mark dies", x.hurt(0, 3), 1);
        c.due("ahead: hurt", x.of(2, 4), 5);
        c.due("ahead: one without dies", x.hurt(1, 3), 0);
        x.watches(0, 5, 2);
        x.watch(0, 0, 1, 2, 9);
        x.watches(1, 3, 2);
        c.due("ahead: hurt without the mark", x.hurt(2, 1), 0);
        x.effect(1, 5, 2, 2, 0);
        c.due("ahead: hurt with the mark", x.hurt(2, 1), 1);
        c.due("ahead: healed", x.of(2, 4), 0);
    }

    private static void byForce() {
        LayeredRules x = new LayeredRules();
        x.thing(0, 0, 6, 99);
        x.thing(1, 0, 1, 99);
        x.effect(4, 5, 0, 5, 0);
        x.watch(0, 0, 0, 1, 0);
        x.watches(0, 5, 0);
        c.due("force: now", x.hurt(0, 1), 1);
        c.due("force: 11", x.of(1, 4), 11);
        x.effect(3, 5, 0, -9, 99 - 90);
        x.effect(4, 5, 0, 0, 9);
        c.due("force: not above 0, but an act", x.hurt(0, 1), 1);
        c.due("force: nothing", x.of(1, 4), 11);
        x.ends(1);
        x.watch(0, 0, 2, 0, 9);
        x.watches(1, 5, 0);
        c.due("force: raised first, as it is the topmost", x.hurt(0, 1), 2);
        c.due("force: 20 by then", x.of(1, 4), 31);
        x.clear();
        x.thing(0, 0, 6, 5);
        x.thing(1, 0, 1, 99);
        x.watch(0, 0, 0, 1, 0);
        x.watches(0, 5, 0);
        x.effect(4, 5, 0, 3, 0);
        x.source(0, 0);
        c.due("force: of one that died of it", x.hurt(0, 5), 1);
        c.due("force: as it last was", x.of(1, 4), 9);
    }

    private static void raised() {
        LayeredRules x = new LayeredRules();
        x.thing(0, 0, 95, 3);
        x.watch(0, 0, 2, -1, 9);
        c.due("raise: it lives or dies ahead of the act", x.hurt(0, 2), 1);
        c.due("raise: force 99 at most", x.of(0, 2), 99);
        c.due("raise: guard", x.of(0, 3), 12);
        c.due("raise: dead ahead of the act", x.hurt(0, 10), 1);
        c.due("raise: nothing comes to the dead", x.of(0, 3), 12);
        c.due("raise: dead", x.of(0, 5), 0);
        x.thing(0, 0, 3, 95);
        c.due("raise: act", x.hurt(1, 1), 1);
        c.due("raise: force", x.of(1, 2), 12);
        c.due("raise: guard 99 at most", x.of(1, 3), 99);
    }

    private static void nothingComes() {
        LayeredRules x = new LayeredRules();
        x.thing(0, 0, 3, 5);
        x.thing(0, 0, 3, 0);
        x.watch(0, 0, 0, 1, 1);
        x.watch(0, 0, 1, 7, 1);
        x.watch(0, 0, 2, 1, 1);
        x.watch(0, 1, 1, -1, 9);
        c.due("nothing: three acts", x.hurt(0, 1), 3);
        c.due("nothing: for the dead", x.of(1, 4), 0);
        c.due("nothing: for the dead", x.of(1, 2), 3);
        c.due("nothing: and one for what dies", x.hurt(0, 9), 4);
        c.due("nothing: it is not healed", x.of(0, 4), 10);
    }

    private static void turns() {
        LayeredRules x = new LayeredRules();
        x.thing(0, 0, 1, 9);
        x.thing(1, 0, 1, 9);
        x.effect(4, 0, 0, 1, 0);
        x.effect(4, 0, 0, 2, 0);
        x.effect(4, 0, 0, 4, 0);
        x.effect(4, 0, 0, 8, 0);
        x.lasts(0, 1);
        x.lasts(1, 1);
        x.lasts(3, 2);
        x.watch(1, 2, 0, 0, 1);
        x.watch(0, 2, 0, 1, 2);
        x.watch(1, 2, 0, -1, 3);
        x.watch(1, 2, 0, 0, 0);
        x.watches(0, 5, 7);
        c.due("23: three of owner 1, of which two do nothing", x.next(), 3);
        c.due("23: whose turn", x.count(5), 1);
        c.due("23: two effects went", x.count(2), 2);
        c.due("23: force", x.now(0, 2), 13);
        c.due("23: the numbers", x.lasts(0, 0), 0);
        c.due("23: the numbers", x.lasts(1, 1), 1);
        c.due("23: hurt by the turn", x.of(0, 4), 1);
        c.due("23: not yet", x.of(1, 4), 0);
        c.due("23: turn of owner 0", x.next(), 1);
        c.due("23: whose turn", x.count(5), 0);
        c.due("23: hurt", x.of(1, 4), 2);
        c.due("23: one effect for good", x.count(2), 1);
        c.due("23: force", x.now(0, 2), 5);
    }

    /** The turn's watchers lie below those that the dying of the same turn sets off. */
    private static void turnAndDying() {
        LayeredRules x = new LayeredRules();
        x.thing(0, 0, 1, 3);
        x.thing(1, 0, 7, 90);
        x.effect(4, 5, 0, 0, 9);
        x.lasts(0, 1);
        x.set(0, 4, 5);
        x.watch(1, 2, 1, 1, 9);
        x.watch(1, 1, 0, 1, 5);
        c.due("23: it dies when the effect ends", x.next(), 2);
        c.due("23: alive", x.count(1), 2);
        c.due("23: hurt first, then healed", x.of(1, 4), 0);
    }

    private static void otherCallsSetOffNone() {
        LayeredRules x = new LayeredRules();
        x.thing(0, 0, 1, 3);
        x.thing(0, 0, 1, 3);
        x.watch(0, 1, 2, 1, 9);
        x.set(0, 4, 3);
        c.due("other: it died", x.count(1), 2);
        c.due("other: nothing was set off", x.of(1, 2), 1);
        c.due("other: nor later", x.next(), 0);
        c.due("other: nor later", x.hurt(1, 1), 0);
    }

    /** Eight watchers of dying; five die in two rounds: 40 acts, which is no loop. */
    private static void fortyActs() {
        LayeredRules x = new LayeredRules();
        forty(x, 5);
        c.due("40: acts", x.hurt(0, 1), 40);
        c.due("40: no loop", x.shown(-1), 0);
        x.clear();
        forty(x, 6);
        c.due("40: one more is a loop", x.hurt(0, 1), LayeredRules.LOOP);
        c.due("40: shown", x.shown(-1), 40);
        c.due("40: all live", x.count(1), 63);
    }

    /** Thing 0 dies by 1 wound; without its effect all others die too. */
    private static void forty(LayeredRules x, int things) {
        x.thing(0, 0, 1, 1);
        x.effect(4, 0, 0, 0, 1);
        x.source(0, 0);
        x.set(0, 3, 0);
        for (int t = 1; t < things; t++) {
            x.thing(0, 0, 1, 2);
            x.set(t, 4, 2);
        }
        for (int w = 0; w < 8; w++) {
            x.watch(w % 2, 1, 1, -1, 1);
        }
    }

    private static void loop() {
        LayeredRules x = new LayeredRules();
        x.thing(0, 0, 1, 99);
        x.thing(1, 0, 1, 99);
        x.thing(1, 0, 1, 3);
        x.effect(4, 5, 2, 1, 1);
        x.lasts(0, 1);
        x.effect(1, 0, 0, 2, 0);
        x.lasts(1, 2);
        x.rule(0, 0, 0, 3);
        x.watch(1, 2, 0, 0, 9);
        x.watch(0, 0, 0, 1, 1);
        x.watch(0, 0, 0, 0, 1);
        x.watches(1, 5, 0);
        x.watches(2, 5, 1);
        x.set(2, 4, 3);
        String was = view(x);
        c.due("23: LOOP", x.next(), LayeredRules.LOOP);
        c.due("24: how many", x.shown(-1), 40);
        c.due("24: the turn's", x.shown(0), 0);
        c.due("24: then", x.shown(1), 1);
        c.due("24: then", x.shown(2), 2);
        c.due("24: the last one", x.shown(39), 1);
        c.due("24: NONE", x.shown(40), LayeredRules.NONE);
        c.due("24: NONE", x.shown(Integer.MAX_VALUE), LayeredRules.NONE);
        c.due("24: BAD", x.shown(-2), LayeredRules.BAD);
        c.that("23: all is as it was", was.equals(view(x)));
        c.due("21: LOOP", x.hurt(1, 9), LayeredRules.LOOP);
        c.due("24: of the latest", x.shown(0), 2);
        c.that("21: all is as it was", was.equals(view(x)));
        x.unwatch(1);
        c.due("21: no loop", x.hurt(0, 4), 0);
        c.due("24: it stays", x.shown(0), 2);
        x.image();
        x.back();
        c.due("24: it stays", x.shown(-1), 40);
    }

    /** Without what was shown, which a refused call does change. */
    private static String view(LayeredRules x) {
        StringBuilder all = new StringBuilder();
        for (int what = 0; what <= 7; what++) {
            all.append(x.count(what)).append(' ');
        }
        for (int t = 0; t < 3; t++) {
            for (int what = 0; what <= 5; what++) {
                all.append(x.of(t, what)).append(',').append(x.now(t, what)).append(' ');
            }
        }
        for (int e = 0; e < x.count(2); e++) {
            int n = x.lasts(e, 0);
            x.lasts(e, n);
            all.append(n).append(' ');
        }
        for (int r = 0; r < x.count(3); r++) {
            all.append(x.ruleOf(r, 1)).append(' ');
        }
        return all.toString();
    }
}
