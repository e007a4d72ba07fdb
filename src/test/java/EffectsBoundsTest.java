/** Promises 8 to 13 and the EFFECTS and LAYERS of the terms: each sentence that names a boundary case. */
public final class EffectsBoundsTest {
    private static final Checks c = new Checks();

    public static void main(String[] args) {
        sorts();
        scopes();
        values();
        tenEffects();
        numbers();
        source();
        deadSource();
        lasts();
        ends();
        order();
        dependsRefused();
        dependsAtItsMoment();
        layers();
        leastNumber();
        circles();
        itself();
        emptyScopes();
        deaths();
        c.end();
    }

    private static void sorts() {
        Run.of(c, "8: SORTS 0 to 5", "effect -1 0 0 0 0 = BAD", "effect 0 0 0 0 0 = 0", "effect 5 0 0 0 0 = 1", "effect 6 0 0 0 0 = BAD",
            "effect MIN 0 0 0 0 = BAD", "effect MAX 0 0 0 0 = BAD", "count 2 = 2");
    }

    private static void scopes() {
        Run.of(c, "8: BAD: SCOPE, how 0 to 5", "effect 4 -1 0 0 0 = BAD", "effect 4 0 0 0 0 = 0", "effect 4 5 0 0 0 = 1", "effect 4 6 0 0 0 = BAD",
            "effect 4 MIN 0 0 0 = BAD", "effect 4 MAX 0 0 0 = BAD");
        Run.of(c, "8: BAD: SCOPE, by 0 x doesn't matter", "effect 4 0 MIN 0 0 = 0", "effect 4 0 MAX 0 0 = 1", "effect 4 0 -1 0 0 = 2",
            "tell 0 0 = 12", "reads 0 all gets 0 0", "tell 1 0 = 12", "reads 0 all gets 0 0");
        Run.of(c, "8: BAD: SCOPE, OWNER x (0, 1)", "effect 4 1 -1 0 0 = BAD", "effect 4 1 0 0 0 = 0", "effect 4 1 1 0 0 = 1", "effect 4 1 2 0 0 = BAD");
        Run.of(c, "8: BAD: SCOPE, TYPE x (0 to 5)", "effect 4 2 -1 0 0 = BAD", "effect 4 2 0 0 0 = 0", "effect 4 2 5 0 0 = 1", "effect 4 2 6 0 0 = BAD");
        Run.of(c, "8: BAD: SCOPE, MARK x (0 to 5)", "effect 4 3 -1 0 0 = BAD", "effect 4 3 0 0 0 = 0", "effect 4 3 5 0 0 = 1", "effect 4 3 6 0 0 = BAD",
            "effect 4 4 -1 0 0 = BAD", "effect 4 4 0 0 0 = 2", "effect 4 4 5 0 0 = 3", "effect 4 4 6 0 0 = BAD");
        Run.of(c, "8: BAD: SCOPE, THING x (0 to 7), also one that isn't there yet", "effect 4 5 -1 0 0 = BAD", "effect 4 5 0 2 0 = 0",
            "effect 4 5 7 3 0 = 1", "effect 4 5 8 0 0 = BAD", "8* thing 0 0 1 1", "now 0 2 = 3", "now 7 2 = 4", "now 6 2 = 1");
    }

    private static void values() {
        for (int sort = 0; sort <= 2; sort++) {
            String e = "effect " + sort + " 0 0 ";
            Run.of(c, "8: SORT " + sort + ": v (0 to 5), u doesn't matter, but must be -9 to 9", e + "-1 0 = BAD", e + "0 0 = 0", e + "5 0 = 1",
                e + "6 0 = BAD", e + "9 0 = BAD", e + "-9 0 = BAD", e + "MIN 0 = BAD", e + "MAX 0 = BAD", e + "0 -10 = BAD", e + "0 -9 = 2",
                e + "0 9 = 3", e + "0 10 = BAD", e + "0 MIN = BAD", e + "0 MAX = BAD");
        }
        for (int sort = 3; sort <= 5; sort++) {
            String e = "effect " + sort + " 0 0 ";
            Run.of(c, "8: SORT " + sort + ": v and u (-9 to 9)", e + "-10 0 = BAD", e + "-9 0 = 0", e + "9 0 = 1", e + "10 0 = BAD", e + "MIN 0 = BAD",
                e + "MAX 0 = BAD", e + "0 -10 = BAD", e + "0 -9 = 2", e + "0 9 = 3", e + "0 10 = BAD", e + "0 MIN = BAD", e + "0 MAX = BAD");
        }
        Run.of(c, "SORTS: what is greatest and lowest is done", "thing 0 0 0 50 = 0", "effect 3 0 0 -9 9 = 0", "now 0 2 = -9", "now 0 3 = 9",
            "effect 4 0 0 -9 9 = 1", "now 0 2 = -18", "now 0 3 = 18", "effect 3 0 0 9 9 = 2", "now 0 2 = 0", "effect 0 0 0 5 0 = 3", "now 0 0 = 5",
            "effect 0 0 0 0 0 = 4", "now 0 0 = 0");
        Run.of(c, "SORTS: u of 0, 1, 2 and v, u of 5 do nothing", "thing 0 0 4 50 = 0", "effect 0 0 0 3 9 = 0", "effect 1 0 0 3 -9 = 1",
            "effect 2 0 0 1 9 = 2", "effect 5 0 0 9 9 = 3", "now 0 0 = 3", "now 0 1 = 8", "now 0 2 = 50", "now 0 3 = 4");
        Run.of(c, "SORTS: a MARK that is there comes, one that isn't goes", "thing 0 0 1 1 = 0", "effect 1 0 0 5 0 = 0", "effect 1 0 0 5 0 = 1",
            "now 0 1 = 32", "effect 2 0 0 4 0 = 2", "now 0 1 = 32");
    }

    private static void tenEffects() {
        Run.of(c, "8: 10 at most, numbered as they come", "9* effect 4 0 0 1 0 = 8", "effect 4 0 0 1 0 = 9", "count 2 = 10", "effect 4 0 0 1 0 = FULL",
            "ends 9 = 9", "effect 4 0 0 1 0 = 9", "effect 4 0 0 1 0 = FULL", "ends 0 = 9", "effect 4 0 0 1 0 = 9");
        Run.of(c, "8: BAD is named ahead of FULL", "10* effect 4 0 0 1 0", "effect 6 0 0 1 0 = BAD", "effect 4 6 0 1 0 = BAD", "effect 4 1 2 1 0 = BAD",
            "effect 4 0 0 10 0 = BAD", "effect 4 0 0 1 10 = BAD", "effect 4 0 0 1 1 = FULL");
        Run.of(c, "8: without SOURCE, for good", "10* effect 4 0 0 1 0", "thing 0 0 0 1 = 0", "source 9 -1 = -1", "lasts 9 0 = 0", "12* next", "count 2 = 10");
        Run.of(c, "8: one that comes where one went is without SOURCE, for good", "thing 0 0 0 1 = 0", "effect 4 0 0 1 0 = 0", "source 0 0 = -1",
            "lasts 0 3 = 0", "ends 0 = 0", "effect 4 0 0 1 0 = 0", "source 0 -1 = -1", "lasts 0 0 = 0");
    }

    private static void numbers() {
        String[] scene = {"thing 0 0 0 9", "effect 4 0 0 1 0", "effect 4 0 0 2 0", "effect 4 0 0 4 0", "lasts 0 1", "lasts 1 2", "lasts 2 3"};
        Run.of(c, "EFFECTS: those behind one that goes have 1 less, the first goes", Run.rows(scene, "ends 0 = 2", "lasts 0 2 = 2", "lasts 1 3 = 3",
            "lasts 2 0 = BAD", "now 0 2 = 6"));
        Run.of(c, "EFFECTS: those behind one that goes have 1 less, one between", Run.rows(scene, "ends 1 = 2", "lasts 0 1 = 1", "lasts 1 3 = 3",
            "lasts 2 0 = BAD", "now 0 2 = 5"));
        Run.of(c, "EFFECTS: those behind one that goes have 1 less, the last goes", Run.rows(scene, "ends 2 = 2", "lasts 0 1 = 1", "lasts 1 2 = 2",
            "lasts 2 0 = BAD", "now 0 2 = 3"));
    }

    private static void source() {
        Run.of(c, "9: a THING, or none (-1)", "effect 4 0 0 1 0 = 0", "source 0 0 = BAD", "source 0 -1 = -1", "thing 0 0 0 9 = 0", "source 0 -2 = BAD",
            "source 0 0 = -1", "source 0 1 = BAD", "source 0 MIN = BAD", "source 0 MAX = BAD", "source 0 -1 = 0", "source 0 -1 = -1",
            "7* thing 0 0 0 9 = 7", "source 0 7 = -1", "source 0 8 = BAD", "source 0 7 = 7");
        Run.of(c, "9: BAD: no such EFFECT", "source -1 -1 = BAD", "source 0 -1 = BAD", "effect 4 0 0 1 0 = 0", "source 1 -1 = BAD", "source MIN -1 = BAD",
            "source MAX -1 = BAD", "source 0 -1 = -1");
    }

    private static void deadSource() {
        Run.of(c, "EFFECTS: one whose SOURCE is dead does nothing", "thing 0 0 0 9 = 0", "thing 0 0 0 1 = 1", "effect 4 5 0 5 0 = 0", "source 0 1 = -1",
            "now 0 2 = 5", "order -1 = 1", "set 1 4 1 = 0", "now 0 2 = 0", "order -1 = 0", "count 2 = 1", "source 0 1 = 1", "now 0 2 = 0",
            "source 0 0 = 1", "now 0 2 = 5", "source 0 1 = 0", "now 0 2 = 0", "source 0 -1 = 1", "now 0 2 = 5");
        Run.of(c, "EFFECTS: one of a dead SOURCE still lasts and ends", "thing 0 0 0 0 = 0", "2* effect 4 0 0 5 0", "source 0 0 = -1", "lasts 0 2 = 0",
            "next = 0", "lasts 0 1 = 1", "next = 0", "count 2 = 1");
        Run.of(c, "EFFECTS: its own SOURCE's last GUARD is by it", "thing 0 0 0 1 = 0", "effect 4 0 0 3 4 = 0", "source 0 0 = -1", "set 0 4 5 = 0",
            "of 0 5 = 0", "now 0 2 = 3", "now 0 3 = 5");
    }

    private static void lasts() {
        Run.of(c, "10: n TURNS (0 to 9)", "effect 4 0 0 1 0 = 0", "lasts 0 -1 = BAD", "lasts 0 0 = 0", "lasts 0 9 = 0", "lasts 0 10 = BAD",
            "lasts 0 MIN = BAD", "lasts 0 MAX = BAD", "lasts 0 1 = 9", "lasts 0 1 = 1");
        Run.of(c, "10: BAD: no such EFFECT", "lasts -1 0 = BAD", "lasts 0 0 = BAD", "effect 4 0 0 1 0 = 0", "lasts 1 0 = BAD", "lasts MIN 0 = BAD",
            "lasts MAX 0 = BAD");
        Run.of(c, "10: of 9 TURNS it is there till the ninth", "effect 4 0 0 1 0 = 0", "lasts 0 9 = 0", "8* next", "count 2 = 1", "lasts 0 1 = 1",
            "next = 0", "count 2 = 0");
        Run.of(c, "10: of 1 TURN it goes by the next", "effect 4 0 0 1 0 = 0", "lasts 0 1 = 0", "next = 0", "count 2 = 0");
        Run.of(c, "10: 0: for good", "effect 4 0 0 1 0 = 0", "lasts 0 2 = 0", "next = 0", "lasts 0 0 = 1", "20* next", "count 2 = 1", "lasts 0 0 = 0");
    }

    private static void ends() {
        Run.of(c, "11: BAD: no such EFFECT; how many there are", "ends -1 = BAD", "ends 0 = BAD", "effect 4 0 0 1 0 = 0", "ends 1 = BAD",
            "ends MIN = BAD", "ends MAX = BAD", "ends 0 = 0", "ends 0 = BAD", "10* effect 4 0 0 1 0 = 9", "ends 10 = BAD", "ends 9 = 9", "ends 9 = BAD");
    }

    private static void order() {
        Run.of(c, "12: i -1: how many; BAD: i below -1; NONE", "order -2 = BAD", "order -1 = 0", "order 0 = NONE", "effect 4 0 0 1 0 = 0", "order -1 = 1",
            "order 0 = 0", "order 1 = NONE", "order MIN = BAD", "order MAX = NONE", "9* effect 4 0 0 1 0 = 9", "order -1 = 10", "order 9 = 9",
            "order 10 = NONE", "order -2 = BAD");
        Run.of(c, "12: of those that do something", "thing 0 0 1 0 = 0", "3* effect 4 0 0 1 0 = 2", "source 1 0 = -1", "order -1 = 2", "order 0 = 0",
            "order 1 = 2", "order 2 = NONE", "source 0 0 = -1", "source 2 0 = -1", "order -1 = 0", "order 0 = NONE");
    }

    private static void dependsRefused() {
        Run.of(c, "13: BAD: either, one and the same", "depends 0 1 = BAD", "effect 0 0 0 1 0 = 0", "depends 0 0 = BAD", "depends 0 1 = BAD",
            "depends 1 0 = BAD", "depends -1 0 = BAD", "depends 0 -1 = BAD", "depends MIN 0 = BAD", "depends 0 MAX = BAD", "effect 0 0 0 1 0 = 1",
            "depends 0 1 = 0", "depends 1 0 = 0", "depends 1 2 = BAD", "depends 2 1 = BAD", "depends 1 1 = BAD");
        Run.of(c, "13: STATE: they are of two LAYERS", "effect 0 0 0 1 0 = 0", "effect 1 0 0 1 0 = 1", "effect 2 0 0 1 0 = 2", "effect 3 0 0 1 0 = 3",
            "effect 4 0 0 1 0 = 4", "effect 5 0 0 1 0 = 5", "depends 0 1 = STATE", "depends 1 0 = STATE", "depends 1 2 = 0", "depends 2 1 = 0",
            "depends 2 3 = STATE", "depends 3 4 = STATE", "depends 4 3 = STATE", "depends 4 5 = STATE", "depends 5 4 = STATE", "depends 3 5 = STATE");
        Run.of(c, "13: STATE: one does nothing", "thing 0 0 1 1 = 0", "thing 0 0 1 0 = 1", "2* effect 0 0 0 1 0 = 1", "source 0 1 = -1",
            "depends 0 1 = STATE", "depends 1 0 = STATE", "source 0 0 = 1", "depends 0 1 = 0", "source 1 1 = -1", "depends 0 1 = STATE", "depends 1 0 = STATE");
        Run.of(c, "13: BAD is named ahead of STATE", "thing 0 0 1 0 = 0", "2* effect 0 0 0 1 0 = 1", "source 0 0 = -1", "depends 0 0 = BAD",
            "depends 0 2 = BAD", "depends 2 0 = BAD", "depends 0 1 = STATE");
    }

    private static void dependsAtItsMoment() {
        Run.of(c, "13: when their LAYER begins, though one is done by then", "thing 0 1 1 1 = 0", "effect 0 2 1 2 0 = 0", "effect 0 2 2 3 0 = 1",
            "depends 1 0 = 1", "depends 0 1 = 0", "now 0 0 = 3");
        Run.of(c, "13: LAYERS ahead are done by then", "thing 0 1 1 1 = 0", "effect 1 2 2 0 0 = 0", "effect 2 3 0 5 0 = 1", "depends 1 0 = 0",
            "effect 0 0 0 2 0 = 2", "depends 1 0 = 1", "depends 0 1 = 0");
        Run.of(c, "13: with no THINGS none DEPENDS", "effect 0 2 1 2 0 = 0", "effect 0 2 2 3 0 = 1", "depends 1 0 = 0", "thing 0 1 1 1 = 0",
            "depends 1 0 = 1", "set 0 4 1 = 0", "depends 1 0 = 0");
        Run.of(c, "13: what is so already makes none others", "thing 0 2 1 1 = 0", "effect 0 2 2 5 0 = 0", "effect 0 0 0 2 0 = 1", "depends 0 1 = 0",
            "set 0 1 3 = 2", "depends 0 1 = 1", "set 0 1 2 = 3", "effect 0 0 0 3 0 = 2", "depends 0 2 = 1");
        Run.of(c, "13: by MARKS that come and go, with and without", "thing 0 0 1 1 = 0", "effect 1 3 0 1 0 = 0", "effect 1 4 0 2 0 = 1",
            "effect 1 0 0 0 0 = 2", "effect 2 0 0 0 0 = 3", "depends 0 2 = 1", "depends 1 2 = 1", "depends 0 3 = 0", "depends 1 3 = 0", "depends 2 0 = 0");
        Run.of(c, "13: OWNERS and THINGS never become others", "thing 0 0 1 1 = 0", "effect 0 1 0 1 0 = 0", "effect 0 5 0 2 0 = 1", "effect 0 0 0 3 0 = 2",
            "depends 0 2 = 0", "depends 1 2 = 0", "depends 2 0 = 0");
        Run.of(c, "13: in the LAYERS of 3, 4, 5 none DEPENDS", "thing 0 0 3 3 = 0", "2* effect 3 2 0 1 1 = 1", "2* effect 4 4 0 1 1 = 3", "2* effect 5 0 0 0 0 = 5",
            "depends 0 1 = 0", "depends 2 3 = 0", "depends 4 5 = 0", "depends 5 4 = 0");
    }

    private static void layers() {
        Run.of(c, "LAYERS: first SORT 0; then 1 and 2; then 3, 4, 5", "thing 0 0 7 9 = 0", "effect 5 0 0 0 0 = 0", "effect 4 0 0 1 2 = 1",
            "effect 3 0 0 4 6 = 2", "effect 2 0 0 0 0 = 3", "effect 1 0 0 0 0 = 4", "effect 0 0 0 3 0 = 5", "order 0 = 5", "order 1 = 3", "order 2 = 4",
            "order 3 = 2", "order 4 = 1", "order 5 = 0", "now 0 1 = 1", "now 0 2 = 8", "now 0 3 = 5");
        Run.of(c, "LAYERS: of 1 and 2 by number, be it the one or the other", "thing 0 0 7 9 = 0", "effect 1 0 0 0 0 = 0", "effect 2 0 0 0 0 = 1",
            "now 0 1 = 0", "effect 1 0 0 0 0 = 2", "now 0 1 = 1", "order 0 = 0", "order 1 = 1", "order 2 = 2");
        Run.of(c, "LAYERS: a SCOPE is as all is at that moment", "thing 0 1 7 9 = 0", "effect 0 3 2 4 0 = 0", "effect 1 2 1 2 0 = 1", "effect 4 3 2 5 0 = 2",
            "now 0 0 = 1", "now 0 1 = 4", "now 0 2 = 12");
    }

    private static void leastNumber() {
        Run.of(c, "LAYERS: the one of least number that DEPENDS on no other", "thing 0 0 1 1 = 0", "effect 0 2 2 3 0 = 0", "effect 0 2 1 2 0 = 1",
            "effect 0 5 0 1 0 = 2", "order 0 = 0", "order 1 = 2", "order 2 = 1", "now 0 0 = 2");
        Run.of(c, "LAYERS: DEPENDS is asked anew at each step", "thing 0 1 1 1 = 0", "effect 0 2 3 4 0 = 0", "effect 0 2 2 3 0 = 1", "effect 0 2 1 2 0 = 2",
            "depends 0 1 = 0", "order 0 = 0", "order 1 = 2", "order 2 = 1", "now 0 0 = 3");
        Run.of(c, "LAYERS: one that was done holds none back", "thing 0 1 1 1 = 0", "effect 1 0 0 0 0 = 0", "effect 1 3 0 1 0 = 1", "effect 1 3 1 2 0 = 2",
            "order 0 = 0", "order 1 = 1", "order 2 = 2", "now 0 1 = 7");
        Run.of(c, "LAYERS: one that was done holds none back, though it would change the SCOPE again", "thing 0 1 1 1 = 0", "effect 1 0 0 0 0 = 0", "effect 2 0 0 0 0 = 1", "effect 1 3 0 1 0 = 2",
            "effect 1 0 0 2 0 = 3", "order 0 = 0", "order 1 = 1", "order 2 = 2", "order 3 = 3", "now 0 1 = 4");
        Run.of(c, "LAYERS: one of a LAYER that was done holds none back", "thing 0 1 1 1 = 0", "effect 0 0 0 2 0 = 0", "effect 0 0 0 1 0 = 1", "effect 3 2 1 5 5 = 2", "effect 3 0 0 3 3 = 3",
            "order 2 = 2", "order 3 = 3", "now 0 2 = 3");
        Run.of(c, "LAYERS: one of a dead SOURCE holds none back, though others are free", "thing 0 1 1 1 = 0", "thing 0 1 1 0 = 1", "effect 1 3 0 1 0 = 0", "effect 1 0 0 0 0 = 1", "effect 1 0 0 2 0 = 2",
            "order 0 = 1", "order 1 = 0", "source 1 1 = -1", "order 0 = 0", "order 1 = 2", "order -1 = 2", "now 0 1 = 4");
        Run.of(c, "LAYERS: one of a dead SOURCE holds none back", "thing 0 1 1 1 = 0", "thing 0 1 1 0 = 1", "effect 0 2 1 2 0 = 0", "effect 0 0 0 3 0 = 1",
            "order 0 = 1", "now 0 0 = 3", "source 1 1 = -1", "order 0 = 0", "order 1 = NONE", "now 0 0 = 2");
    }

    private static void circles() {
        Run.of(c, "LAYERS: if there is none such, that of least number, of two", "thing 0 1 1 1 = 0", "thing 0 2 1 1 = 1", "effect 0 2 2 1 0 = 0",
            "effect 0 2 1 2 0 = 1", "depends 0 1 = 1", "depends 1 0 = 1", "order 0 = 0", "order 1 = 1", "scope 2 2 = 3");
        Run.of(c, "LAYERS: if there is none such, that of least number, of three", "thing 0 1 1 1 = 0", "thing 0 2 1 1 = 1", "thing 0 3 1 1 = 2",
            "effect 0 2 1 2 0 = 0", "effect 0 2 2 3 0 = 1", "effect 0 2 3 1 0 = 2", "depends 0 2 = 1", "depends 1 0 = 1", "depends 2 1 = 1",
            "order 0 = 0", "order 1 = 1", "order 2 = 2", "scope 2 1 = 7");
        Run.of(c, "LAYERS: and so on: of those left one DEPENDS no more", "thing 0 2 1 1 = 0", "thing 0 3 1 1 = 1", "effect 0 2 2 3 0 = 0",
            "effect 0 2 2 5 0 = 1", "effect 0 2 3 2 0 = 2", "depends 0 1 = 1", "depends 0 2 = 1", "depends 1 0 = 1", "depends 1 2 = 1",
            "depends 2 0 = 1", "depends 2 1 = 0", "order 0 = 0", "order 1 = 2", "order 2 = 1", "scope 2 5 = 3");
        Run.of(c, "LAYERS: and so on: a circle that comes later", "thing 0 1 1 1 = 0", "thing 0 2 1 1 = 1", "effect 0 2 1 2 0 = 0",
            "effect 0 2 3 4 0 = 1", "effect 0 2 2 3 0 = 2", "effect 0 2 3 1 0 = 3", "depends 1 2 = 1", "depends 3 2 = 1", "depends 0 3 = 0",
            "depends 2 0 = 1", "order 0 = 0", "order 1 = 2", "order 2 = 1", "order 3 = 3", "scope 2 4 = 3");
    }

    private static void itself() {
        Run.of(c, "LAYERS: on another one: none DEPENDS on itself", "thing 0 1 1 1 = 0", "effect 0 2 1 2 0 = 0", "effect 0 5 0 5 0 = 1", "order 0 = 1",
            "order 1 = 0", "ends 1 = 1", "order 0 = 0", "now 0 0 = 2", "effect 1 4 0 0 0 = 1", "effect 1 4 0 1 0 = 2", "order 1 = 1", "order 2 = 2",
            "depends 1 2 = 0", "depends 2 1 = 1", "now 0 1 = 1");
    }

    private static void emptyScopes() {
        Run.of(c, "LAYERS: one in whose SCOPE is none is done for none", "effect 0 5 7 2 0 = 0", "effect 4 2 5 9 9 = 1", "order -1 = 2", "order 0 = 0",
            "order 1 = 1", "thing 0 0 1 1 = 0", "now 0 0 = 0", "now 0 2 = 1", "now 0 3 = 1", "order -1 = 2");
    }

    private static void deaths() {
        Run.of(c, "ROUNDS: behind a call that changes EFFECTS: effect", "thing 0 0 1 9 = 0", "set 0 4 5 = 0", "effect 4 0 0 0 -3 = 0", "of 0 5 = 1",
            "effect 4 0 0 0 -1 = 1", "of 0 5 = 0");
        Run.of(c, "ROUNDS: behind a call that changes EFFECTS: ends", "thing 0 0 1 5 = 0", "2* effect 4 0 0 0 1 = 1", "set 0 4 5 = 0", "ends 0 = 1",
            "of 0 5 = 1", "ends 0 = 0", "of 0 5 = 0", "now 0 3 = 5");
        Run.of(c, "ROUNDS: behind a call that changes EFFECTS: source", "thing 0 0 1 5 = 0", "thing 0 0 1 0 = 1", "effect 4 0 0 0 1 = 0", "set 0 4 5 = 0",
            "source 0 0 = -1", "of 0 5 = 1", "source 0 1 = 0", "of 0 5 = 0", "source 0 -1 = 1", "of 0 5 = 0", "now 0 3 = 5");
        Run.of(c, "ROUNDS: behind a call that changes EFFECTS: text", "thing 0 0 1 9 = 0", "tape all gets 0 -8", "text = 1", "of 0 5 = 1",
            "tape all gets 0 -1", "text = 1", "of 0 5 = 0");
        Run.of(c, "ROUNDS: behind each call, not behind each PHRASE", "thing 0 0 1 9 = 0", "tape all gets 0 -9;all gets 0 1", "text = 2", "of 0 5 = 1", "now 0 3 = 1", "tape all gets 0 9;all gets 0 -9",
            "text = 2", "of 0 5 = 1");
        Run.of(c, "ROUNDS: eight, one after another; no EFFECT of the dead does something", "8* thing 0 0 1 5 = 7", "effect 4 5 1 0 1", "effect 4 5 2 0 1", "effect 4 5 3 0 1", "effect 4 5 4 0 1",
            "effect 4 5 5 0 1", "effect 4 5 6 0 1", "effect 4 5 7 0 1", "effect 4 0 0 1 0 = 7", "source 0 0", "source 1 1", "source 2 2", "source 3 3", "source 4 4", "source 5 5", "source 6 6", "source 7 7",
            "set 1 4 5", "set 2 4 5", "set 3 4 5", "set 4 4 5", "set 5 4 5", "set 6 4 5", "set 7 4 5", "count 1 = 255", "order -1 = 8", "set 0 4 5 = 0", "count 1 = 0", "order -1 = 0", "order 0 = NONE",
            "now 7 2 = 2", "now 7 3 = 5");
        Run.of(c, "ROUNDS: and so on till none does", "thing 0 0 1 5 = 0", "thing 0 0 1 5 = 1", "thing 0 0 1 5 = 2", "effect 4 5 1 0 1 = 0", "source 0 0 = -1",
            "effect 4 5 2 0 1 = 1", "source 1 1 = -1", "set 1 4 5 = 0", "set 2 4 5 = 0", "count 1 = 7", "set 0 4 4 = 0", "count 1 = 7", "set 0 4 5 = 4",
            "count 1 = 0", "now 1 3 = 5", "now 2 3 = 5");
    }
}
