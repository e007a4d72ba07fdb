import java.util.ArrayList;
import java.util.Arrays;
import java.util.List;

/** Promises 1 to 7 and part 1 of the terms: each sentence that names a boundary case. */
public final class ThingsBoundsTest {
    private static final Checks c = new Checks();

    public static void main(String[] args) {
        aNewObject();
        clear();
        clearLeavesNothing();
        whatIsNoMore();
        owners();
        types();
        strengths();
        eightThings();
        of();
        now();
        asLowAsRefusals();
        asItLastWas();
        setBounds();
        setWounds();
        setOfTheDead();
        scopes();
        scopesOfNone();
        deathByGuard();
        c.end();
    }

    private static void aNewObject() {
        Run.of(c, "1: no THINGS, EFFECTS, RULES, WATCHERS; TURN of OWNER 0", "count 0 = 0", "count 1 = 0", "count 2 = 0",
            "count 3 = 0", "count 4 = 0", "count 5 = 0", "count 6 = 0", "count 7 = 1", "scope 0 0 = 0", "order -1 = 0",
            "order 0 = NONE", "shown -1 = 0", "shown 0 = NONE", "of 0 0 = BAD", "now 0 0 = BAD", "set 0 1 0 = BAD",
            "source 0 -1 = BAD", "lasts 0 0 = BAD", "ends 0 = BAD", "depends 0 1 = BAD", "ruleOf 0 0 = BAD", "unrule 0 = BAD",
            "watches 0 0 0 = BAD", "unwatch 0 = BAD", "hurt 0 1 = BAD", "aim 0 1 0 = BAD", "tell 0 0 = BAD", "back = STATE",
            "item 0 0 = NOTHING", "item 1 0 = NOTHING", "item 2 0 = NOTHING", "item 3 0 = NOTHING", "choice 0 0 = 0",
            "choice 1 0 = 0", "wipe = 0", "text = FAULT 0", "image = 0", "back = 0", "next = 0", "count 5 = 1");
    }

    private static void clear() {
        Run.of(c, "2: how many THINGS there were, none and one", "clear = 0", "thing 0 0 1 1 = 0", "clear = 1", "clear = 0");
        Run.of(c, "2: the dead were there too, eight at most", "8* thing 0 0 1 0", "count 1 = 0", "thing 0 0 1 1 = FULL",
            "clear = 8", "thing 0 0 1 1 = 0", "7* thing 0 0 1 1 = 7", "thing 0 0 1 1 = FULL", "clear = 8");
        Run.of(c, "2: no IMAGE is there behind it, if there was none", "clear = 0", "back = STATE");
        Run.of(c, "2: THE IMAGE stays", "2* thing 0 0 1 1", "image = 2", "clear = 2", "back = 2", "count 1 = 3");
        Run.of(c, "2: THE TAPE stays, full too", "30* feed 0 4", "clear = 0", "count 6 = 120", "feed 0 1 = FULL", "wipe = 120");
        Run.of(c, "2: SHEETS stay", "sheet 0 1 40", "write 0 39 MIN", "sheet 3 0 0", "clear = 0", "item 0 39 = MIN",
            "item 3 0 = OUTSIDE", "item 1 0 = NOTHING");
        Run.of(c, "2: z stays", "seed MIN = 1", "clear = 0", "count 7 = MIN");
        Run.of(c, "2: as at first, the TURN and CHOICES", "next = 0", "choice 0 1 = 0", "choice 1 1 = 0", "clear = 0",
            "count 5 = 0", "choice 0 0 = 0", "choice 1 0 = 0");
    }

    /** What was there ahead of clear() or back() is not there: no rule leads to it, no act comes to it. */
    private static void whatIsNoMore() {
        String[] more = {"thing 0 0 1 9 = 0", "count 0 = 1", "scope 5 1 = 0", "of 1 0 = BAD", "effect 4 5 1 1 1 = 0", "source 0 1 = BAD", "rule 3 0 0 1 = 0", "aim 0 5 0 = 0", "aim 0 5 2 = 0",
            "watch 0 0 0 1 5 = 0", "hurt 0 3 = 1", "of 0 4 = 3", "thing 1 2 3 4 = 1", "of 1 4 = 0", "now 1 2 = 4", "now 1 3 = 5", "aim 0 5 0 = 1"};
        Run.of(c, "2: as at first: the second THING is none such", Run.rows(new String[] {"8* thing 1 5 9 99", "clear = 8"}, more));
        Run.of(c, "36: as it was then: the second THING is none such", Run.rows(new String[] {"image = 0", "8* thing 1 5 9 99", "back = 0"}, more));
    }

    /** All full, a call refused by LOOP: behind clear() it is like a new object with the same tape, sheets, z. */
    private static void clearLeavesNothing() {
        List<String> kept = Arrays.asList("tape all swaps;all swaps", "sheet 1 1 3", "write 1 2 -9", "sheet 2 0 40", "seed 99");
        List<String> all = new ArrayList<>(kept);
        all.addAll(Arrays.asList("4* thing 1 5 9 99", "4* thing 0 4 9 0", "set 0 4 50", "10* effect 4 0 0 1 1", "lasts 9 9",
            "source 9 1", "8* rule 0 5 1 99", "8* watch 1 0 0 -1 1", "8* watches 7 5 0", "choice 0 1", "choice 1 1", "hurt 0 1",
            "next", "clear"));
        c.that("2: all is as at first", Whole.of(all).equals(Whole.of(kept)));
    }

    private static void owners() {
        Run.of(c, "3: OWNER (0, 1)", "thing -1 0 1 1 = BAD", "thing 0 0 1 1 = 0", "thing 1 0 1 1 = 1", "thing 2 0 1 1 = BAD",
            "thing MIN 0 1 1 = BAD", "thing MAX 0 1 1 = BAD", "of 0 0 = 0", "of 1 0 = 1", "count 0 = 2");
    }

    private static void types() {
        Run.of(c, "3: BASE TYPE (0 to 5)", "thing 0 -1 1 1 = BAD", "thing 0 0 1 1 = 0", "thing 0 5 1 1 = 1", "thing 0 6 1 1 = BAD",
            "thing 0 MIN 1 1 = BAD", "thing 0 MAX 1 1 = BAD", "of 0 1 = 0", "of 1 1 = 5", "now 1 0 = 5", "count 0 = 2");
    }

    private static void strengths() {
        Run.of(c, "3: BASE FORCE (0 to 99)", "thing 0 0 -1 1 = BAD", "thing 0 0 0 1 = 0", "thing 0 0 99 1 = 1", "thing 0 0 100 1 = BAD",
            "thing 0 0 MIN 1 = BAD", "thing 0 0 MAX 1 = BAD", "of 0 2 = 0", "of 1 2 = 99", "count 0 = 2");
        Run.of(c, "3: BASE GUARD (0 to 99)", "thing 0 0 1 -1 = BAD", "thing 0 0 1 0 = 0", "thing 0 0 1 1 = 1", "thing 0 0 1 99 = 2",
            "thing 0 0 1 100 = BAD", "thing 0 0 1 MIN = BAD", "thing 0 0 1 MAX = BAD", "of 0 3 = 0", "of 1 3 = 1", "of 2 3 = 99");
        Run.of(c, "3: WOUNDS 0 at first, ALIVE till it dies", "thing 0 0 1 1 = 0", "of 0 4 = 0", "of 0 5 = 1", "thing 0 0 1 0 = 1",
            "of 1 4 = 0", "of 1 5 = 0", "count 1 = 1");
    }

    private static void eightThings() {
        Run.of(c, "3: THINGS are numbered from 0 as they come, 8 at most", "thing 0 0 1 1 = 0", "thing 0 1 1 1 = 1", "thing 0 2 1 1 = 2",
            "thing 0 3 1 1 = 3", "thing 0 4 1 1 = 4", "thing 0 5 1 1 = 5", "thing 1 0 1 1 = 6", "thing 1 1 1 1 = 7", "count 1 = 255",
            "thing 0 0 1 1 = FULL", "of 7 0 = 1", "of 7 1 = 1", "of 8 0 = BAD", "count 0 = 8");
        Run.of(c, "3: also those that are dead", "8* thing 0 0 1 0 = 7", "count 1 = 0", "thing 0 0 1 1 = FULL", "deal 1 = 8", "count 0 = 8");
        Run.of(c, "3: BAD is named ahead of FULL", "8* thing 0 0 1 1", "thing 2 0 1 1 = BAD", "thing 0 6 1 1 = BAD", "thing 0 0 100 1 = BAD",
            "thing 0 0 1 100 = BAD", "thing -1 0 1 1 = BAD", "thing 0 0 1 1 = FULL");
    }

    private static void of() {
        Run.of(c, "4: of a THING, what 0 to 5", "thing 1 3 7 9 = 0", "set 0 4 8 = 0", "of 0 -1 = BAD", "of 0 0 = 1", "of 0 1 = 3", "of 0 2 = 7",
            "of 0 3 = 9", "of 0 4 = 8", "of 0 5 = 1", "of 0 6 = BAD", "of 0 MIN = BAD", "of 0 MAX = BAD", "of -1 0 = BAD", "of 1 0 = BAD",
            "of MIN 0 = BAD", "of MAX 0 = BAD", "thing 0 0 1 1 = 1", "of 1 0 = 0", "of 2 0 = BAD");
    }

    private static void now() {
        Run.of(c, "5: of a THING, what 0 to 3", "thing 1 3 7 9 = 0", "now 0 -1 = BAD", "now 0 0 = 3", "now 0 1 = 0", "now 0 2 = 7", "now 0 3 = 9",
            "now 0 4 = BAD", "now 0 MIN = BAD", "now 0 MAX = BAD", "now -1 0 = BAD", "now 1 0 = BAD", "now MIN 0 = BAD", "now MAX 0 = BAD",
            "thing 0 4 1 0 = 1", "now 1 -1 = BAD", "now 1 0 = 4", "now 1 3 = 0", "now 1 4 = BAD");
        Run.of(c, "5: MARKS (bits) are a set of 0 to 5", "thing 0 0 1 1 = 0", "now 0 1 = 0", "effect 1 0 0 0 0 = 0", "now 0 1 = 1",
            "effect 1 0 0 5 0 = 1", "now 0 1 = 33", "effect 1 0 0 1 0", "effect 1 0 0 2 0", "effect 1 0 0 3 0", "effect 1 0 0 4 0", "now 0 1 = 63",
            "effect 2 0 0 5 0 = 6", "now 0 1 = 31", "effect 2 0 0 0 0 = 7", "now 0 1 = 30");
    }

    private static void asLowAsRefusals() {
        Run.of(c, "5: FORCE may be as low as refusals", "thing 0 0 0 9 = 0", "effect 4 0 0 -1 0 = 0", "now 0 2 = -1", "effect 4 0 0 -1 0 = 1",
            "now 0 2 = -2", "effect 4 0 0 -1 0 = 2", "now 0 2 = -3", "7* effect 4 0 0 -9 0 = 9", "now 0 2 = -66", "of 0 2 = 0");
        Run.of(c, "5: FORCE at its lowest, at its greatest", "thing 0 0 99 99 = 0", "10* effect 4 0 0 9 9 = 9", "now 0 2 = 189", "now 0 3 = 189",
            "10* ends 0 = 0", "10* effect 4 0 0 -9 0 = 9", "now 0 2 = 9", "set 0 2 0 = 99", "now 0 2 = -90");
        Run.of(c, "5: GUARD likewise, of one that is dead", "thing 0 0 0 1 = 0", "thing 0 0 0 2 = 1", "thing 0 0 0 3 = 2", "effect 4 0 0 0 -4 = 0",
            "count 1 = 0", "now 0 3 = -3", "now 1 3 = -2", "now 2 3 = -1", "of 0 3 = 1");
        Run.of(c, "5: FORCE and GUARD of the dead, by places that change", "thing 0 0 0 9 = 0", "effect 3 0 0 -2 5 = 0", "now 0 2 = -2",
            "effect 5 0 0 0 0 = 1", "count 1 = 0", "now 0 2 = 5", "now 0 3 = -2");
    }

    private static void asItLastWas() {
        Run.of(c, "5: AS IT LAST WAS, when it is gone", "thing 0 1 2 3 = 0", "effect 0 0 0 5 0 = 0", "effect 1 0 0 5 0 = 1", "effect 4 0 0 7 8 = 2",
            "set 0 4 10 = 0", "of 0 5 = 1", "set 0 4 11 = 10", "of 0 5 = 0", "ends 0 = 2", "ends 0 = 1", "ends 0 = 0", "effect 4 0 0 1 1 = 0",
            "now 0 0 = 5", "now 0 1 = 32", "now 0 2 = 9", "now 0 3 = 11", "of 0 1 = 1", "of 0 2 = 2", "of 0 3 = 3");
        Run.of(c, "5: AS IT LAST WAS, the last THING there may be", "7* thing 0 0 1 1", "effect 0 5 7 4 0 = 0", "effect 1 5 7 1 0 = 1", "thing 1 5 98 0 = 7", "of 7 5 = 0", "now 7 0 = 4",
            "now 7 1 = 2", "now 7 2 = 98", "now 7 3 = 0");
        Run.of(c, "5: NOW, if it is ALIVE", "thing 0 1 2 3 = 0", "effect 4 0 0 7 8 = 0", "now 0 2 = 9", "ends 0 = 0", "now 0 2 = 2", "now 0 3 = 3");
    }

    private static void setBounds() {
        Run.of(c, "6: what is 1 to 4", "thing 0 1 2 3 = 0", "set 0 0 0 = BAD", "set 0 5 0 = BAD", "set 0 5 1 = BAD", "set 0 -1 0 = BAD",
            "set 0 MIN 0 = BAD", "set 0 MAX 0 = BAD");
        Run.of(c, "6: a THING", "set 0 1 0 = BAD", "thing 0 1 2 3 = 0", "set -1 1 0 = BAD", "set 1 1 0 = BAD", "set MIN 1 0 = BAD",
            "set MAX 1 0 = BAD", "set 0 1 0 = 1");
        Run.of(c, "6: BASE TYPE (0 to 5)", "thing 0 1 2 3 = 0", "set 0 1 -1 = BAD", "set 0 1 0 = 1", "set 0 1 5 = 0", "set 0 1 6 = BAD",
            "set 0 1 MIN = BAD", "set 0 1 MAX = BAD", "of 0 1 = 5", "now 0 0 = 5");
        Run.of(c, "6: BASE FORCE (0 to 99)", "thing 0 1 2 3 = 0", "set 0 2 -1 = BAD", "set 0 2 0 = 2", "set 0 2 99 = 0", "set 0 2 100 = BAD",
            "set 0 2 MIN = BAD", "set 0 2 MAX = BAD", "of 0 2 = 99", "now 0 2 = 99");
        Run.of(c, "6: BASE GUARD (0 to 99)", "thing 0 1 2 3 = 0", "set 0 3 -1 = BAD", "set 0 3 1 = 3", "set 0 3 99 = 1", "set 0 3 100 = BAD",
            "set 0 3 MIN = BAD", "set 0 3 MAX = BAD", "of 0 3 = 99", "count 1 = 1", "set 0 3 0 = 99", "of 0 3 = 0", "count 1 = 0");
        Run.of(c, "6: WOUNDS (0 to 999)", "thing 0 1 2 3 = 0", "set 0 4 -1 = BAD", "set 0 4 0 = 0", "set 0 4 1000 = BAD", "set 0 4 MIN = BAD",
            "set 0 4 MAX = BAD", "set 0 4 999 = 0", "of 0 4 = 999", "count 1 = 0");
    }

    private static void setWounds() {
        Run.of(c, "6: with WOUNDS one less than GUARD it lives, with as many it dies", "2* thing 0 1 2 3 = 1", "set 0 4 2 = 0", "of 0 5 = 1",
            "set 0 4 3 = 2", "of 0 5 = 0", "of 0 4 = 3", "set 1 4 2 = 0", "set 1 4 0 = 2", "of 1 5 = 1");
        Run.of(c, "6: with GUARD one more than WOUNDS it lives, with as many it dies", "thing 0 1 2 99 = 0", "set 0 4 50 = 0", "set 0 3 51 = 99",
            "of 0 5 = 1", "set 0 3 50 = 51", "of 0 5 = 0");
    }

    private static void setOfTheDead() {
        Run.of(c, "6: STATE: it isn't ALIVE", "thing 0 1 2 3 = 0", "set 0 4 3 = 0", "set 0 1 0 = STATE", "set 0 2 0 = STATE", "set 0 3 99 = STATE",
            "set 0 4 0 = STATE");
        Run.of(c, "6: BAD is named ahead of STATE", "thing 0 1 2 0 = 0", "set 0 1 6 = BAD", "set 0 2 100 = BAD", "set 0 3 -1 = BAD",
            "set 0 4 1000 = BAD", "set 0 0 0 = BAD", "set 0 5 0 = BAD", "set 0 4 999 = STATE");
    }

    private static void scopes() {
        String[] scene = {"thing 0 0 1 9", "thing 1 5 1 9", "6* thing 0 2 1 9", "effect 1 5 0 0 0", "effect 1 5 7 5 0"};
        Run.of(c, "7: how is 0 to 5", Run.rows(scene, "scope -1 0 = BAD", "scope 6 0 = BAD", "scope MIN 0 = BAD", "scope MAX 0 = BAD"));
        Run.of(c, "7: 0 all, x doesn't matter", Run.rows(scene, "scope 0 0 = 255", "scope 0 -1 = 255", "scope 0 8 = 255", "scope 0 MIN = 255",
            "scope 0 MAX = 255"));
        Run.of(c, "7: 1 those of OWNER x (0, 1)", Run.rows(scene, "scope 1 -1 = BAD", "scope 1 0 = 253", "scope 1 1 = 2", "scope 1 2 = BAD",
            "scope 1 MIN = BAD", "scope 1 MAX = BAD"));
        Run.of(c, "7: 2 those of TYPE x (0 to 5)", Run.rows(scene, "scope 2 -1 = BAD", "scope 2 0 = 1", "scope 2 5 = 2", "scope 2 6 = BAD",
            "scope 2 2 = 252", "scope 2 1 = 0", "scope 2 MIN = BAD", "scope 2 MAX = BAD"));
        Run.of(c, "7: 3 those with MARK x (0 to 5)", Run.rows(scene, "scope 3 -1 = BAD", "scope 3 0 = 1", "scope 3 5 = 128", "scope 3 6 = BAD",
            "scope 3 1 = 0", "scope 3 MIN = BAD", "scope 3 MAX = BAD"));
        Run.of(c, "7: 4 those without MARK x (0 to 5)", Run.rows(scene, "scope 4 -1 = BAD", "scope 4 0 = 254", "scope 4 5 = 127", "scope 4 6 = BAD",
            "scope 4 1 = 255", "scope 4 MIN = BAD", "scope 4 MAX = BAD"));
        Run.of(c, "7: 5 THING x (0 to 7)", Run.rows(scene, "scope 5 -1 = BAD", "scope 5 0 = 1", "scope 5 7 = 128", "scope 5 8 = BAD",
            "scope 5 MIN = BAD", "scope 5 MAX = BAD"));
    }

    private static void scopesOfNone() {
        Run.of(c, "7: none, if there is none such", "scope 0 0 = 0", "scope 1 0 = 0", "scope 2 0 = 0", "scope 3 0 = 0", "scope 4 0 = 0", "scope 5 0 = 0",
            "scope 5 7 = 0", "thing 0 0 1 1 = 0", "scope 5 0 = 1", "scope 5 1 = 0", "scope 4 0 = 1");
        Run.of(c, "7: THINGS that are ALIVE", "thing 0 0 1 0 = 0", "scope 0 0 = 0", "scope 1 0 = 0", "scope 2 0 = 0", "scope 4 0 = 0", "scope 5 0 = 0",
            "effect 1 0 0 3 0 = 0", "scope 3 3 = 0");
        Run.of(c, "7: NOW", "thing 0 0 1 1 = 0", "effect 0 0 0 5 0 = 0", "scope 2 0 = 0", "scope 2 5 = 1", "ends 0 = 0", "scope 2 0 = 1", "scope 2 5 = 0");
    }

    private static void deathByGuard() {
        Run.of(c, "ROUNDS: GUARD NOW 0 and below kills what has no WOUNDS", "3* thing 0 0 1 5 = 2", "effect 4 5 0 0 -4 = 0", "of 0 5 = 1",
            "effect 4 5 1 0 -5 = 1", "of 1 5 = 0", "effect 4 5 2 0 -6 = 2", "of 2 5 = 0", "now 0 3 = 1", "now 1 3 = 0", "now 2 3 = -1");
        Run.of(c, "ROUNDS: a new one may die of an EFFECT that is there", "effect 4 0 0 0 -5 = 0", "thing 0 0 1 5 = 0", "of 0 5 = 0", "thing 0 0 1 6 = 1",
            "of 1 5 = 1", "effect 4 5 2 0 6 = 1", "thing 0 0 1 0 = 2", "of 2 5 = 1");
    }
}
