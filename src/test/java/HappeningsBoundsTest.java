/** Promises 21, 23, 24 and WATCHERS, the STACK, ROUNDS, LOOP: each sentence that names a boundary case. */
public final class HappeningsBoundsTest {
    private static final Checks c = new Checks();

    public static void main(String[] args) {
        hurtRefused();
        deathByHurt();
        setOffByHurt();
        setOffByDying();
        setOffByTurn();
        healed();
        raised();
        byForce();
        asItLastWas();
        notAlive();
        stackByOwners();
        stackByThings();
        stackTogether();
        scopesOfHurt();
        scopesAheadOfRound();
        rounds();
        turnsAndEffects();
        turnsAndDying();
        otherCalls();
        fortyActs();
        loopByTurn();
        loopLeavesAll();
        shown();
        deepStack();
        c.end();
    }

    private static void hurtRefused() {
        Run.of(c, "21: BAD: no such THING", "hurt 0 1 = BAD", "thing 0 0 1 9 = 0", "hurt -1 1 = BAD", "hurt 1 1 = BAD", "hurt MIN 1 = BAD", "hurt MAX 1 = BAD",
            "hurt 0 1 = 0");
        Run.of(c, "21: by n (1 to 99)", "2* thing 0 0 1 99 = 1", "hurt 0 0 = BAD", "hurt 0 100 = BAD", "hurt 0 -1 = BAD", "hurt 0 MIN = BAD", "hurt 0 MAX = BAD",
            "hurt 0 1 = 0", "of 0 4 = 1", "hurt 1 99 = 0", "of 1 4 = 99");
        Run.of(c, "21: STATE: it isn't ALIVE; BAD ahead of it", "thing 0 0 1 0 = 0", "thing 0 0 1 1 = 1", "hurt 0 1 = STATE", "hurt 0 99 = STATE", "hurt 0 0 = BAD",
            "hurt 0 100 = BAD", "hurt 1 1 = 0", "hurt 1 1 = STATE");
        Run.of(c, "21: STATE, though a RULE would lead elsewhere", "thing 0 0 1 0 = 0", "thing 0 0 1 9 = 1", "rule 3 0 0 1 = 0", "hurt 0 1 = STATE");
    }

    private static void deathByHurt() {
        Run.of(c, "ROUNDS: WOUNDS one less than GUARD NOW", "thing 0 0 1 9 = 0", "hurt 0 8 = 0", "of 0 5 = 1", "of 0 4 = 8");
        Run.of(c, "ROUNDS: WOUNDS as many as GUARD NOW", "thing 0 0 1 9 = 0", "hurt 0 9 = 0", "of 0 5 = 0", "of 0 4 = 9");
        Run.of(c, "ROUNDS: WOUNDS more than GUARD NOW", "thing 0 0 1 9 = 0", "hurt 0 10 = 0", "of 0 5 = 0", "of 0 4 = 10");
        Run.of(c, "ROUNDS: GUARD is NOW's, not BASE GUARD", "thing 0 0 1 9 = 0", "effect 4 0 0 0 2 = 0", "hurt 0 10 = 0", "of 0 5 = 1", "hurt 0 1 = 0", "of 0 5 = 0",
            "now 0 3 = 11");
    }

    private static void setOffByHurt() {
        Run.of(c, "WATCHERS: 0 a THING is HURT: how many ACTS, none and one", "thing 0 0 1 99 = 0", "hurt 0 1 = 0", "watch 0 0 1 0 9 = 0", "hurt 0 5 = 1", "of 0 4 = 0",
            "watches 0 5 1 = 0", "hurt 0 5 = 0", "of 0 4 = 5");
        Run.of(c, "WATCHERS: eight by one HURT", "thing 0 0 1 99 = 0", "8* watch 1 0 2 0 1 = 7", "hurt 0 1 = 8", "of 0 2 = 9");
        Run.of(c, "WATCHERS: what is kept off or healed sets none off", "thing 0 0 1 99 = 0", "watch 0 0 2 0 1 = 0", "rule 0 0 0 5 = 0", "hurt 0 5 = 0", "rule 4 0 0 0 = 0",
            "hurt 0 5 = 0", "of 0 2 = 1", "unrule 0 = 0", "rule 0 0 0 5 = 0", "hurt 0 6 = 1", "of 0 2 = 2");
        Run.of(c, "WATCHERS: an ACT that heals or raises HURTS none", "thing 0 0 1 99 = 0", "watch 0 0 1 0 1 = 0", "watch 0 0 2 0 1 = 1", "hurt 0 3 = 2", "of 0 4 = 2",
            "of 0 2 = 2");
        Run.of(c, "WATCHERS: an ACT that HURTS sets off too, and goes by RULES", "2* thing 0 0 1 99 = 1", "watch 0 0 0 1 3 = 0", "watches 0 5 0 = 0", "watch 0 0 2 0 1 = 1",
            "watches 1 5 1 = 0", "rule 2 5 1 0 = 0", "hurt 0 1 = 2", "of 1 4 = 6", "of 0 2 = 2", "unrule 0 = 0", "rule 0 5 1 3 = 0", "hurt 0 1 = 1", "of 1 4 = 6",
            "count 3 = 0");
        Run.of(c, "WATCHERS: that which set it off is the one to whom it was led", "2* thing 0 0 1 99 = 1", "rule 3 5 0 1 = 0", "watch 0 0 2 -1 4 = 0", "hurt 0 1 = 1",
            "of 0 2 = 1", "of 1 2 = 5");
    }

    private static void setOffByDying() {
        Run.of(c, "WATCHERS: 1 dies, and not when it is just HURT", "2* thing 0 0 1 3 = 1", "watch 0 1 2 1 1 = 0", "hurt 0 2 = 0", "of 1 2 = 1", "hurt 0 1 = 1", "of 1 2 = 2");
        Run.of(c, "WATCHERS: one that dies was HURT too", "2* thing 0 0 1 3 = 1", "watch 0 0 2 1 1 = 0", "watch 0 1 2 1 5 = 1", "hurt 0 3 = 2", "of 1 2 = 7");
        Run.of(c, "WATCHERS: for each one that dies, in all ROUNDS", "8* thing 0 0 1 1 = 7", "effect 4 0 0 0 1 = 0", "source 0 0 = -1", "set 1 4 1", "set 2 4 1", "set 3 4 1",
            "count 1 = 255", "watch 0 1 1 -1 1 = 0", "hurt 0 2 = 4", "count 1 = 240");
    }

    private static void setOffByTurn() {
        Run.of(c, "WATCHERS: 2 a TURN begins (of its OWNER)", "thing 0 0 1 99 = 0", "watch 0 2 2 0 1 = 0", "watch 1 2 2 0 5 = 1", "next = 1", "of 0 2 = 6", "next = 1",
            "of 0 2 = 7", "next = 1", "of 0 2 = 12");
        Run.of(c, "WATCHERS: by a TURN its SCOPE doesn't matter", "thing 0 0 1 99 = 0", "watch 1 2 2 0 1 = 0", "watches 0 5 7 = 0", "next = 1", "of 0 2 = 2",
            "watches 0 3 5 = 5", "next = 0", "next = 1", "of 0 2 = 3");
        Run.of(c, "WATCHERS: by a TURN with no THINGS there", "watch 1 2 0 0 1 = 0", "watch 1 2 0 -1 0 = 1", "next = 2", "next = 0");
        Run.of(c, "WATCHERS: nothing by a TURN with v 0", "thing 0 0 9 99 = 0", "watch 1 2 0 0 0 = 0", "watch 1 2 2 0 0 = 1", "next = 2", "of 0 4 = 0", "of 0 2 = 9");
        Run.of(c, "WATCHERS: by a TURN none with to -1", "thing 0 0 9 99 = 0", "set 0 4 5", "watch 1 2 0 -1 9 = 0", "watch 1 2 1 -1 9 = 1", "watch 1 2 2 -1 9 = 2", "next = 3",
            "of 0 4 = 5", "of 0 2 = 9", "of 0 3 = 99");
        Run.of(c, "WATCHERS: eight by one TURN", "thing 0 0 1 99 = 0", "8* watch 1 2 2 0 9 = 7", "next = 8", "of 0 2 = 73", "next = 0");
    }

    private static void healed() {
        String[] scene = {"2* thing 0 0 1 99", "set 1 4 5", "watch 0 0 1 1 4", "watches 0 5 0"};
        Run.of(c, "WATCHERS: healed (WOUNDS less), one above 0", Run.rows(scene, "hurt 0 1 = 1", "of 1 4 = 1"));
        Run.of(c, "WATCHERS: healed (WOUNDS less), as many", Run.rows(scene, "set 1 4 4", "hurt 0 1 = 1", "of 1 4 = 0"));
        Run.of(c, "WATCHERS: healed (WOUNDS less, 0 at least)", Run.rows(scene, "set 1 4 3", "hurt 0 1 = 1", "of 1 4 = 0", "hurt 0 1 = 1", "of 1 4 = 0"));
        Run.of(c, "WATCHERS: a heal goes by no RULE", Run.rows(scene, "rule 0 5 1 9", "rule 3 5 1 0", "hurt 0 1 = 1", "of 1 4 = 1", "count 3 = 2", "ruleOf 0 1 = 9"));
    }

    private static void raised() {
        String[] scene = {"2* thing 0 0 1 50", "watch 0 0 2 1 9", "watches 0 5 0"};
        Run.of(c, "WATCHERS: raised, to 98, to 99", Run.rows(scene, "set 1 2 89", "set 1 3 90", "hurt 0 1 = 1", "of 1 2 = 98", "of 1 3 = 99"));
        Run.of(c, "WATCHERS: raised (99 at most), each for itself", Run.rows(scene, "set 1 2 91", "set 1 3 10", "hurt 0 1 = 1", "of 1 2 = 99", "of 1 3 = 19",
            "set 1 2 0", "set 1 3 99", "hurt 0 1 = 1", "of 1 2 = 9", "of 1 3 = 99"));
        Run.of(c, "WATCHERS: raised at 99", Run.rows(scene, "set 1 2 99", "set 1 3 99", "hurt 0 1 = 1", "of 1 2 = 99", "of 1 3 = 99"));
        Run.of(c, "WATCHERS: raised by v 1", "thing 0 0 98 98 = 0", "watch 0 0 2 0 1 = 0", "hurt 0 1 = 1", "of 0 2 = 99", "of 0 3 = 99", "hurt 0 1 = 1", "of 0 2 = 99");
        Run.of(c, "WATCHERS: raised is what is BASE, not NOW", "thing 0 0 1 9 = 0", "effect 3 0 0 5 9 = 0", "watch 0 0 2 0 2 = 0", "hurt 0 1 = 1", "of 0 2 = 3", "of 0 3 = 11",
            "now 0 2 = 5", "now 0 3 = 9");
    }

    private static void byForce() {
        String[] scene = {"thing 0 0 0 50", "thing 1 0 9 99", "watch 0 0 0 1 0", "watches 0 5 0"};
        Run.of(c, "WATCHERS: 0: by FORCE, if that is above 0: 1", Run.rows(scene, "set 0 2 1", "hurt 0 1 = 1", "of 1 4 = 1"));
        Run.of(c, "WATCHERS: 0: by FORCE, if that is above 0: 0", Run.rows(scene, "hurt 0 1 = 1", "of 1 4 = 0"));
        Run.of(c, "WATCHERS: 0: by FORCE, if that is above 0: -1", Run.rows(scene, "effect 4 0 0 -1 0", "hurt 0 1 = 1", "of 1 4 = 0"));
        Run.of(c, "WATCHERS: 0: by FORCE, of 99 and more", Run.rows(scene, "set 0 2 99", "effect 4 5 1 0 9", "hurt 0 1 = 1", "of 1 4 = 99", "set 1 4 0",
            "5* effect 4 0 0 9 9", "hurt 0 1 = 1", "of 1 4 = 144", "of 1 5 = 1"));
        Run.of(c, "WATCHERS: 0: by FORCE below 0 none is healed, none raised", "thing 0 0 0 50 = 0", "effect 4 0 0 -2 0 = 0", "watch 0 0 1 0 0 = 0", "watch 0 0 2 0 0 = 1",
            "hurt 0 5 = 2", "of 0 4 = 5", "of 0 2 = 0", "of 0 3 = 50");
        Run.of(c, "WATCHERS: v 9 is no FORCE", Run.rows(scene, "set 0 2 50", "unwatch 0", "watch 0 0 0 1 9", "watches 0 5 0", "hurt 0 1 = 1", "of 1 4 = 9"));
    }

    private static void asItLastWas() {
        Run.of(c, "WATCHERS: by FORCE of the one that set it off as it last was", "thing 0 0 2 5 = 0", "thing 1 0 9 99 = 1", "effect 4 5 0 3 0 = 0", "source 0 0 = -1",
            "watch 0 1 0 1 0 = 0", "watches 0 5 0 = 0", "hurt 0 5 = 1", "of 1 4 = 5", "now 0 2 = 5");
        Run.of(c, "WATCHERS: of one that is ALIVE: NOW, when the ACT is done", "thing 0 0 2 50 = 0", "thing 1 0 9 99 = 1", "watch 0 0 0 1 0 = 0", "watches 0 5 0 = 0",
            "watch 0 0 2 0 9 = 1", "watches 1 5 0 = 0", "hurt 0 5 = 2", "of 1 4 = 11");
        Run.of(c, "WATCHERS: FORCE ahead of its own ROUND, not of the first one", "thing 0 0 1 5 = 0", "thing 0 0 2 5 = 1", "thing 1 0 9 99 = 2", "effect 4 5 1 7 1 = 0",
            "source 0 0 = -1", "set 1 4 5 = 0", "watch 0 1 0 2 0 = 0", "watches 0 5 1 = 0", "hurt 0 5 = 1", "count 1 = 4", "now 1 2 = 2", "of 2 4 = 2");
    }

    private static void notAlive() {
        Run.of(c, "WATCHERS: to a THING that isn't ALIVE nothing comes: dead", "thing 0 0 1 50 = 0", "thing 0 0 1 1 = 1", "set 1 4 3 = 0", "watch 0 0 0 1 1 = 0",
            "watch 0 0 1 1 1 = 1", "watch 0 0 2 1 9 = 2", "hurt 0 1 = 3", "of 1 4 = 3", "of 1 2 = 1", "of 1 3 = 1", "of 1 5 = 0");
        Run.of(c, "WATCHERS: to a THING that isn't ALIVE nothing comes: not there", "thing 0 0 1 50 = 0", "watch 0 0 0 1 1 = 0", "watch 0 0 1 7 1 = 1", "watch 0 0 2 7 9 = 2",
            "hurt 0 1 = 3", "of 0 4 = 1", "count 0 = 1");
        Run.of(c, "WATCHERS: to the dead nothing comes, though a RULE would lead", "2* thing 0 0 1 50 = 1", "set 1 4 50 = 0", "rule 3 0 0 0 = 0", "watch 0 0 0 1 1 = 0",
            "hurt 0 5 = 1", "of 0 4 = 5", "of 1 4 = 50");
        Run.of(c, "WATCHERS: one healed behind its death stays dead", "thing 0 0 1 5 = 0", "watch 0 0 1 -1 9 = 0", "watch 0 1 2 -1 9 = 1", "hurt 0 5 = 2", "of 0 5 = 0",
            "of 0 4 = 5", "of 0 3 = 5");
    }

    /** Who hurts thing 1 first, by 3 with guard 3: what comes behind its death comes to the dead. */
    private static void stackByOwners() {
        String[] scene = {"thing 0 0 1 50", "thing 0 0 1 3", "watch 0 0 0 1 3", "watch 1 0 0 1 5", "watches 0 5 0", "watches 1 5 0"};
        Run.of(c, "STACK: TURN of 0: those of 1 lie on top", Run.rows(scene, "hurt 0 1 = 2", "of 1 4 = 5"));
        Run.of(c, "STACK: TURN of 1: those of 0 lie on top", Run.rows(scene, "next = 0", "hurt 0 1 = 2", "of 1 4 = 3"));
        Run.of(c, "STACK: by numbers: the greatest lies on top", "thing 0 0 1 50 = 0", "thing 0 0 1 3 = 1", "watch 0 0 0 1 3 = 0", "watch 0 0 0 1 4 = 1",
            "watch 0 0 0 1 5 = 2", "watches 0 5 0", "watches 1 5 0", "watches 2 5 0", "hurt 0 1 = 3", "of 1 4 = 5");
        Run.of(c, "STACK: TURN of 1, by numbers of OWNER 1 as well", "thing 0 0 1 50 = 0", "thing 0 0 1 3 = 1", "watch 1 0 0 1 3 = 0", "watch 1 0 0 1 4 = 1", "watches 0 5 0",
            "watches 1 5 0", "next = 0", "hurt 0 1 = 2", "of 1 4 = 4");
    }

    /** Things 0 and 1 die in one round, of force 5 and 3; thing 2 with guard 4 tells which came first. */
    private static void stackByThings() {
        String[] scene = {"thing 0 0 5 9", "thing 0 0 3 9", "thing 1 0 1 4", "thing 1 0 1 9", "effect 4 1 0 0 1", "source 0 3", "set 0 4 9", "set 1 4 9"};
        Run.of(c, "STACK: for each by THINGS: the greatest lies on top", Run.rows(scene, "watch 0 1 0 2 0 = 0", "watches 0 1 0 = 0", "hurt 3 9 = 2", "of 2 4 = 8",
            "count 1 = 0"));
        Run.of(c, "STACK: for each WATCHER all its THINGS", Run.rows(scene, "set 2 3 99", "watch 0 1 0 2 9 = 0", "watch 0 1 1 2 9 = 1", "watches 0 1 0", "watches 1 1 0",
            "hurt 3 9 = 4", "of 2 4 = 18"));
    }

    /** What an act sets off goes ahead of all that lay there. */
    private static void stackTogether() {
        Run.of(c, "STACK: the topmost one goes, what it sets off lies on top", "thing 0 0 1 50 = 0", "thing 0 0 1 50 = 1", "thing 0 0 1 3 = 2", "watch 0 0 0 2 3 = 0",
            "watch 0 0 0 1 1 = 1", "watch 0 0 0 2 5 = 2", "watches 0 5 0", "watches 1 5 0", "watches 2 5 1", "hurt 0 1 = 3", "of 2 4 = 5");
        Run.of(c, "STACK: of a ROUND on top of those of the HURT", "thing 0 0 1 3 = 0", "thing 0 0 1 3 = 1", "watch 0 0 0 1 3 = 0", "watch 0 1 0 1 5 = 1", "watches 0 5 0",
            "watches 1 5 0", "hurt 0 3 = 2", "of 1 4 = 5");
        Run.of(c, "STACK: of a later ROUND on top of those of an earlier one", "thing 0 0 1 3 = 0", "thing 0 0 1 3 = 1", "thing 0 0 1 3 = 2", "effect 4 5 1 0 1 = 0",
            "source 0 0 = -1", "set 1 4 3 = 0", "watch 0 1 0 2 5 = 0", "watch 0 1 0 2 3 = 1", "watches 0 5 1", "watches 1 5 0", "hurt 0 3 = 2", "of 2 4 = 5");
    }

    private static void scopesOfHurt() {
        Run.of(c, "SET OFF: by SCOPES as all is when a THING was HURT", "thing 0 0 1 5 = 0", "effect 1 5 0 2 0 = 0", "source 0 0 = -1", "thing 0 0 1 50 = 1",
            "watch 0 0 2 1 9 = 0", "watches 0 3 2 = 0", "hurt 0 5 = 1", "of 0 5 = 0", "of 1 2 = 10", "hurt 1 1 = 0", "watches 0 4 2 = 3", "hurt 1 1 = 1");
        Run.of(c, "SET OFF: by OWNER, TYPE, THING", "thing 0 1 1 50 = 0", "thing 1 2 1 50 = 1", "watch 0 0 1 7 1 = 0", "watches 0 1 1", "hurt 0 1 = 0", "hurt 1 1 = 1",
            "watches 0 2 1", "hurt 0 1 = 1", "hurt 1 1 = 0", "watches 0 5 1", "hurt 0 1 = 0", "hurt 1 1 = 1", "effect 0 5 1 1 0 = 0", "watches 0 2 1", "hurt 1 1 = 1");
    }

    private static void scopesAheadOfRound() {
        Run.of(c, "SET OFF: by SCOPES as all was ahead of the ROUND", "thing 0 0 1 5 = 0", "thing 0 0 1 5 = 1", "effect 1 0 0 2 0 = 0", "source 0 0 = -1",
            "effect 4 5 1 0 1 = 1", "source 1 0 = -1", "set 1 4 5 = 0", "watch 0 1 1 7 1 = 0", "watches 0 3 2 = 0", "hurt 0 5 = 1", "count 1 = 0", "now 0 1 = 4", "now 1 1 = 0");
        Run.of(c, "SET OFF: both of one ROUND, by what one of them gave", "thing 0 0 1 5 = 0", "thing 0 0 1 5 = 1", "thing 0 0 1 9 = 2", "effect 1 0 0 2 0 = 0",
            "source 0 0 = -1", "effect 4 5 0 0 1 = 1", "effect 4 5 1 0 1 = 2", "source 1 2 = -1", "source 2 2 = -1", "set 0 4 5", "set 1 4 5", "watch 0 1 1 7 1 = 0",
            "watches 0 3 2 = 0", "watch 0 1 1 7 1 = 1", "watches 1 4 2 = 0", "hurt 2 9 = 3", "now 1 1 = 4");
    }

    private static void rounds() {
        Run.of(c, "ROUNDS: behind each ACT: raised ahead of the next ACT it lives", "thing 0 0 1 5 = 0", "thing 0 0 1 50 = 1", "watch 0 0 0 0 5 = 0", "watch 0 0 2 0 1 = 1",
            "watches 0 5 1", "watches 1 5 1", "hurt 1 1 = 2", "of 0 5 = 1", "of 0 4 = 5", "of 0 3 = 6");
        Run.of(c, "ROUNDS: behind each ACT: hurt ahead of being raised it dies", "thing 0 0 1 5 = 0", "thing 0 0 1 50 = 1", "watch 0 0 2 0 1 = 0", "watch 0 0 0 0 5 = 1",
            "watches 0 5 1", "watches 1 5 1", "hurt 1 1 = 2", "of 0 5 = 0", "of 0 4 = 5", "of 0 3 = 5");
        Run.of(c, "ROUNDS: by GUARD NOW, when FORCE and GUARD change places", "thing 0 0 5 1 = 0", "effect 4 0 0 -5 9 = 0", "effect 5 0 0 0 0 = 1",
            "count 1 = 0", "clear = 1", "thing 0 0 9 0 = 0", "count 1 = 0", "clear = 1", "effect 5 0 0 0 0 = 0", "thing 0 0 9 0 = 0", "of 0 5 = 1", "now 0 3 = 9");
        Run.of(c, "ROUNDS: all die together: an EFFECT of one still counts for both", "thing 0 0 1 5 = 0", "thing 0 0 1 9 = 1", "effect 4 5 1 0 -4 = 0", "source 0 0 = -1",
            "thing 0 0 1 9 = 2", "effect 4 5 0 0 1 = 1", "source 1 2 = -1", "set 0 4 5", "set 1 4 4", "effect 4 5 1 0 1 = 2", "source 2 2 = -1", "set 1 4 5", "count 1 = 7",
            "hurt 2 9 = 0", "count 1 = 0", "now 0 3 = 5", "now 1 3 = 5");
    }

    private static void turnsAndEffects() {
        Run.of(c, "23: the TURN of the other OWNER begins, and of the first one again", "count 5 = 0", "next = 0", "count 5 = 1", "next = 0", "count 5 = 0", "next = 0",
            "count 5 = 1");
        Run.of(c, "23: they last one less, at 0 they go; those for good stay", "thing 0 0 0 9 = 0", "effect 4 0 0 1 0", "effect 4 0 0 2 0", "effect 4 0 0 4 0",
            "effect 4 0 0 8 0", "lasts 0 1", "lasts 1 2", "lasts 3 1", "next = 0", "count 2 = 2", "now 0 2 = 6", "lasts 0 1 = 1", "lasts 1 0 = 0", "next = 0",
            "count 2 = 1", "now 0 2 = 4", "lasts 0 0 = 0");
        Run.of(c, "23: all ten go at once", "10* effect 4 0 0 1 0", "lasts 0 1", "lasts 1 1", "lasts 2 1", "lasts 3 1", "lasts 4 1", "lasts 5 1", "lasts 6 1", "lasts 7 1",
            "lasts 8 1", "lasts 9 1", "next = 0", "count 2 = 0", "effect 4 0 0 1 0 = 0");
    }

    private static void turnsAndDying() {
        String[] scene = {"thing 0 0 1 5", "thing 1 0 1 4", "effect 4 5 0 0 1", "lasts 0 1", "set 0 4 5"};
        Run.of(c, "23: ROUNDS of the TURN, by an EFFECT that went", Run.rows(scene, "of 0 5 = 1", "next = 0", "of 0 5 = 0", "now 0 3 = 5"));
        Run.of(c, "23: what the ROUNDS set off lies on top of the TURN's", Run.rows(scene, "watch 1 2 0 1 4 = 0", "watch 0 1 0 1 6 = 1", "next = 3", "of 1 4 = 6"));
        Run.of(c, "23: it is the TURN of the other one by then", Run.rows(scene, "watch 0 1 0 1 4 = 0", "watch 1 1 0 1 6 = 1", "next = 4", "of 1 4 = 4"));
    }

    private static void otherCalls() {
        String[] scene = {"thing 0 0 1 5", "thing 0 0 1 50", "watch 0 1 2 1 1", "watch 0 0 2 1 1"};
        Run.of(c, "by other calls none is set off: set", Run.rows(scene, "set 0 4 5 = 0", "count 1 = 2", "of 1 2 = 1", "next = 0", "hurt 1 1 = 1", "of 1 2 = 2"));
        Run.of(c, "by other calls none is set off: effect, ends, source", Run.rows(scene, "effect 4 5 0 0 -5 = 0", "count 1 = 2", "next = 0", "ends 0 = 0", "next = 0"));
        Run.of(c, "by other calls none is set off: thing, text, deal", Run.rows(scene, "thing 0 0 1 0 = 2", "next = 0", "tape thing 0 sets 0 0", "text = 1", "next = 0",
            "tape all gets 0 -9", "text = 1", "deal 1 = 4", "count 1 = 2", "next = 0", "of 1 2 = 1"));
    }

    /** A thing that hurts itself by 1 till it dies: as many acts as its guard has more than the first wounds. */
    private static void fortyActs() {
        Run.of(c, "LOOP: 39 ACTS", "thing 0 0 1 39 = 0", "watch 0 0 0 -1 1 = 0", "hurt 0 1 = 39", "of 0 4 = 39", "of 0 5 = 0", "shown -1 = 0");
        Run.of(c, "LOOP: 40 ACTS are none", "thing 0 0 1 40 = 0", "watch 0 0 0 -1 1 = 0", "hurt 0 1 = 40", "of 0 4 = 40", "of 0 5 = 0", "shown -1 = 0", "shown 0 = NONE");
        Run.of(c, "LOOP: more than 40 ACTS", "thing 0 0 1 41 = 0", "watch 0 0 0 -1 1 = 0", "hurt 0 1 = LOOP", "of 0 4 = 0", "of 0 5 = 1", "shown -1 = 40", "shown 39 = 0",
            "shown 40 = NONE", "hurt 0 2 = 40", "of 0 4 = 41", "of 0 5 = 0", "shown -1 = 40");
        Run.of(c, "LOOP: ACTS that do nothing are ACTS", "8* thing 0 0 1 2 = 7", "effect 4 0 0 0 1 = 0", "source 0 0 = -1", "set 0 3 1", "set 1 4 2", "set 2 4 2", "set 3 4 2",
            "set 4 4 2", "8* watch 0 1 0 -1 1 = 7", "hurt 0 2 = 40", "count 1 = 224", "clear = 8", "8* thing 0 0 1 2 = 7", "effect 4 0 0 0 1 = 0", "source 0 0 = -1",
            "set 0 3 1", "set 1 4 2", "set 2 4 2", "set 3 4 2", "set 4 4 2", "set 5 4 2", "8* watch 0 1 0 -1 1 = 7", "hurt 0 2 = LOOP", "count 1 = 255");
    }

    private static void loopByTurn() {
        String[] scene = {"thing 0 0 1 41", "watch 1 2 0 0 2", "watch 0 0 0 -1 1"};
        Run.of(c, "23: LOOP: 40 ACTS are none", Run.rows(scene, "set 0 3 40", "next = 40", "of 0 4 = 40", "count 5 = 1", "shown -1 = 0"));
        Run.of(c, "23: LOOP: more than 40 ACTS", Run.rows(scene, "next = LOOP", "of 0 4 = 0", "count 5 = 0", "shown -1 = 40", "shown 0 = 0", "shown 1 = 1", "shown 39 = 1",
            "unwatch 1 = 1", "next = 1", "count 5 = 1", "of 0 4 = 2"));
        Run.of(c, "23: LOOP: EFFECTS that went are there again", Run.rows(scene, "effect 4 0 0 3 0", "lasts 0 1", "effect 4 0 0 5 0", "lasts 1 9", "effect 4 0 0 1 0",
            "next = LOOP", "count 2 = 3", "lasts 0 1 = 1", "lasts 1 9 = 9", "lasts 2 0 = 0", "now 0 2 = 10"));
    }

    private static void loopLeavesAll() {
        Run.of(c, "LOOP: all is as it was ahead of the call: the dead, RULES that went", "thing 0 1 1 99 = 0", "thing 1 2 3 4 = 1", "effect 4 0 0 2 2 = 0", "source 0 1 = -1",
            "lasts 0 5", "rule 0 0 0 3 = 0", "rule 0 5 1 9 = 1", "rule 4 5 7 0 = 2", "choice 1 1", "watch 0 0 0 -1 1 = 0", "watch 1 0 2 0 1 = 1", "watch 1 0 0 1 9 = 2",
            "watches 2 5 0", "2* next = 0", "seed 5 = 1", "hurt 0 9 = LOOP", "count 1 = 3", "count 3 = 3", "ruleOf 0 1 = 3", "ruleOf 1 1 = 9", "of 1 4 = 0", "of 0 2 = 1",
            "of 0 4 = 0", "now 1 2 = 5", "count 7 = 5", "count 5 = 0", "lasts 0 3 = 3");
    }

    private static void shown() {
        Run.of(c, "24: i -1: how many (0: there was no such call); BAD: i below -1; NONE", "shown -2 = BAD", "shown -1 = 0", "shown 0 = NONE", "shown MIN = BAD",
            "shown MAX = NONE", "thing 0 0 1 99 = 0", "watch 0 0 0 -1 1 = 0", "hurt 0 1 = LOOP", "shown -2 = BAD", "shown -1 = 40", "shown 0 = 0", "shown 39 = 0",
            "shown 40 = NONE", "shown 41 = NONE", "shown MIN = BAD", "shown MAX = NONE");
        Run.of(c, "24: of the latest call that was refused by LOOP", "2* thing 0 0 1 99 = 1", "watch 0 0 0 0 1 = 0", "watch 0 0 0 1 1 = 1", "watches 0 5 0", "watches 1 5 1",
            "hurt 0 1 = LOOP", "shown 0 = 0", "shown 39 = 0", "hurt 1 1 = LOOP", "shown 0 = 1", "shown 39 = 1", "hurt 0 100 = BAD", "shown 39 = 1", "next = 0",
            "shown -1 = 40", "shown 0 = 1", "unwatch 1 = 1", "shown 0 = 1", "hurt 1 1 = 0", "shown -1 = 40", "image = 2", "back = 2", "shown 39 = 1", "clear = 2",
            "shown -1 = 0", "shown 0 = NONE");
        Run.of(c, "24: an IMAGE keeps nothing of it", "thing 0 0 1 99 = 0", "watch 0 0 0 -1 1 = 0", "image = 1", "shown -1 = 0", "hurt 0 1 = LOOP", "back = 1", "shown -1 = 40");
        Run.of(c, "24: the numbers of WATCHERS, the last one that there may be", "thing 0 0 1 99 = 0", "7* watch 0 2 2 0 1 = 6", "watch 0 0 0 -1 1 = 7", "hurt 0 1 = LOOP",
            "shown 0 = 7", "shown 39 = 7");
    }

    /** All that may lie on the stack at once: each of 40 acts hurts and sets off eight. */
    private static void deepStack() {
        Run.of(c, "STACK: eight more by each of 40 ACTS", "thing 0 0 1 99 = 0", "8* watch 0 0 0 -1 1 = 7", "hurt 0 1 = LOOP", "shown -1 = 40", "shown 0 = 7", "shown 39 = 7",
            "of 0 4 = 0", "hurt 0 98 = 16", "of 0 4 = 99");
        Run.of(c, "STACK: the TURN's eight lie below till all others are gone", "2* thing 0 0 1 99 = 1", "5* watch 1 2 0 0 1 = 4", "3* watch 0 0 1 1 1 = 7", "next = 20",
            "of 0 4 = 5");
    }
}
