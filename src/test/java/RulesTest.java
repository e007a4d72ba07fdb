/** Promises 14 to 20 and 22: rule, ruleOf, unrule, choice, watch, watches, unwatch, aim. */
public final class RulesTest {
    private static final Checks c = new Checks();

    public static void main(String[] args) {
        rule();
        unrule();
        choice();
        watch();
        watches();
        unwatch();
        aim();
        aimSorts();
        c.end();
    }

    private static void rule() {
        LayeredRules x = new LayeredRules();
        int[][] wrong = {{-1, 0, 0, 1}, {5, 0, 0, 1}, {0, -1, 0, 1}, {0, 6, 0, 1}, {0, 1, 2, 1}, {0, 5, 8, 1},
            {0, 0, 0, 0}, {0, 0, 0, 100}, {3, 0, 0, -1}, {3, 0, 0, 8}};
        for (int[] w : wrong) {
            c.due("14: BAD", x.rule(w[0], w[1], w[2], w[3]), LayeredRules.BAD);
        }
        c.due("14: none came", x.count(3), 0);
        c.due("14: rule", x.rule(0, 0, 99, 99), 0);
        c.due("14: rule", x.rule(1, 1, 1, 1000), 1);
        c.due("14: rule", x.rule(2, 2, 5, -1000), 2);
        c.due("14: rule", x.rule(3, 3, 5, 7), 3);
        c.due("14: rule", x.rule(4, 5, 7, 0), 4);
        for (int r = 5; r < 8; r++) {
            c.due("14: rule", x.rule(0, 0, 0, 1), r);
        }
        c.due("14: FULL", x.rule(0, 0, 0, 1), LayeredRules.FULL);
        c.due("14: BAD ahead of FULL", x.rule(0, 0, 0, 0), LayeredRules.BAD);
        int[][] due = {{0, 99}, {1, 1000}, {2, -1000}, {3, 7}, {4, 0}, {0, 1}};
        for (int r = 0; r < due.length; r++) {
            c.due("15: sort", x.ruleOf(r, 0), due[r][0]);
            c.due("15: v", x.ruleOf(r, 1), due[r][1]);
        }
        c.due("15: BAD", x.ruleOf(8, 0), LayeredRules.BAD);
        c.due("15: BAD", x.ruleOf(-1, 0), LayeredRules.BAD);
        c.due("15: BAD", x.ruleOf(0, 2), LayeredRules.BAD);
        c.due("15: BAD", x.ruleOf(0, -1), LayeredRules.BAD);
    }

    private static void unrule() {
        LayeredRules x = new LayeredRules();
        c.due("16: BAD", x.unrule(0), LayeredRules.BAD);
        x.rule(0, 0, 0, 1);
        x.rule(0, 0, 0, 2);
        x.rule(0, 0, 0, 3);
        c.due("16: BAD", x.unrule(3), LayeredRules.BAD);
        c.due("16: BAD", x.unrule(-1), LayeredRules.BAD);
        c.due("16: the first goes", x.unrule(0), 2);
        c.due("16: numbers", x.ruleOf(0, 1), 2);
        c.due("16: numbers", x.ruleOf(1, 1), 3);
        c.due("16: the last goes", x.unrule(1), 1);
        c.due("16: numbers", x.ruleOf(0, 1), 2);
        c.due("16: none", x.unrule(0), 0);
        for (int r = 0; r < 8; r++) {
            x.rule(0, 0, 0, 10 + r);
        }
        x.unrule(2);
        x.unrule(4);
        x.rule(0, 0, 0, 20);
        x.rule(0, 0, 0, 21);
        int[] due = {10, 11, 13, 14, 16, 17, 20, 21};
        for (int r = 0; r < 8; r++) {
            c.due("16: each for itself", x.ruleOf(r, 1), due[r]);
        }
    }

    private static void choice() {
        LayeredRules x = new LayeredRules();
        c.due("17: at first", x.choice(0, 1), 0);
        c.due("17: it was", x.choice(0, 0), 1);
        c.due("17: of the other", x.choice(1, 1), 0);
        c.due("17: it was", x.choice(1, 1), 1);
        c.due("17: BAD", x.choice(2, 0), LayeredRules.BAD);
        c.due("17: BAD", x.choice(-1, 0), LayeredRules.BAD);
        c.due("17: BAD", x.choice(0, 2), LayeredRules.BAD);
        c.due("17: BAD", x.choice(0, -1), LayeredRules.BAD);
    }

    private static void watch() {
        LayeredRules x = new LayeredRules();
        int[][] wrong = {{-1, 0, 0, 0, 0}, {2, 0, 0, 0, 0}, {0, -1, 0, 0, 0}, {0, 3, 0, 0, 0}, {0, 0, -1, 0, 0},
            {0, 0, 3, 0, 0}, {0, 0, 0, -2, 0}, {0, 0, 0, 8, 0}, {0, 0, 0, 0, -1}, {0, 0, 0, 0, 10}};
        for (int[] w : wrong) {
            c.due("18: BAD", x.watch(w[0], w[1], w[2], w[3], w[4]), LayeredRules.BAD);
        }
        for (int w = 0; w < 8; w++) {
            c.due("18: watch", x.watch(w % 2, w % 3, w % 3, w - 1, w), w);
        }
        c.due("18: FULL", x.watch(0, 0, 0, 0, 0), LayeredRules.FULL);
        c.due("18: BAD ahead of FULL", x.watch(0, 0, 0, 0, 10), LayeredRules.BAD);
        c.due("18: eight", x.count(4), 8);
    }

    private static void watches() {
        LayeredRules x = new LayeredRules();
        x.watch(0, 0, 0, 0, 0);
        c.due("19: all at first", x.watches(0, 5, 7), 0);
        c.due("19: it was 5", x.watches(0, 2, 5), 5);
        c.due("19: BAD", x.watches(1, 0, 0), LayeredRules.BAD);
        c.due("19: BAD", x.watches(-1, 0, 0), LayeredRules.BAD);
        c.due("19: BAD", x.watches(0, 6, 0), LayeredRules.BAD);
        c.due("19: BAD", x.watches(0, 1, 2), LayeredRules.BAD);
        c.due("19: it was 2", x.watches(0, 0, 100), 2);
    }

    private static void unwatch() {
        LayeredRules x = new LayeredRules();
        c.due("20: BAD", x.unwatch(0), LayeredRules.BAD);
        x.watch(0, 0, 0, 0, 0);
        x.watch(0, 0, 0, 0, 0);
        x.watch(0, 0, 0, 0, 0);
        x.watches(1, 1, 0);
        x.watches(2, 2, 0);
        c.due("20: BAD", x.unwatch(3), LayeredRules.BAD);
        c.due("20: BAD", x.unwatch(-1), LayeredRules.BAD);
        c.due("20: the middle one goes", x.unwatch(1), 2);
        c.due("20: numbers", x.watches(1, 0, 0), 2);
        c.due("20: the first goes", x.unwatch(0), 1);
        c.due("20: none", x.unwatch(0), 0);
        c.due("20: a new one has scope all", x.watch(0, 0, 0, 0, 0), 0);
        c.due("20: all", x.watches(0, 0, 0), 0);
        for (int w = 1; w < 8; w++) {
            x.watch(0, 0, 0, 0, 0);
            x.watches(w, w % 6, 0);
        }
        x.unwatch(2);
        x.unwatch(4);
        x.watch(0, 0, 0, 0, 0);
        c.due("20: a new one has scope all", x.watches(6, 5, 1), 0);
        x.watch(0, 0, 0, 0, 0);
        int[] due = {0, 1, 3, 4, 0, 1, 5, 0};
        for (int w = 0; w < 8; w++) {
            c.due("20: each for itself", x.watches(w, 0, 0), due[w]);
        }
    }

    private static void aim() {
        LayeredRules x = new LayeredRules();
        x.thing(0, 0, 1, 99);
        x.thing(1, 0, 1, 99);
        x.thing(0, 0, 1, 0);
        c.due("22: to whom", x.aim(0, 99, 0), 0);
        c.due("22: how many", x.aim(0, 99, 1), 99);
        c.due("22: no rules", x.aim(0, 99, 2), 0);
        c.due("22: BAD", x.aim(3, 1, 0), LayeredRules.BAD);
        c.due("22: BAD", x.aim(-1, 1, 0), LayeredRules.BAD);
        c.due("22: BAD", x.aim(0, 0, 0), LayeredRules.BAD);
        c.due("22: BAD", x.aim(0, 100, 0), LayeredRules.BAD);
        c.due("22: BAD", x.aim(0, 1, 3), LayeredRules.BAD);
        c.due("22: BAD", x.aim(0, 1, -1), LayeredRules.BAD);
        c.due("22: STATE", x.aim(2, 1, 0), LayeredRules.STATE);
        c.due("22: BAD ahead of STATE", x.aim(2, 1, 3), LayeredRules.BAD);
        x.rule(3, 0, 0, 1);
        x.rule(3, 0, 0, 0);
        x.rule(3, 0, 0, 2);
        x.rule(3, 0, 0, 7);
        c.due("22: there and back, to no dead one", x.aim(0, 5, 0), 0);
        c.due("22: two rules", x.aim(0, 5, 2), 2);
        c.due("22: from the other", x.aim(1, 5, 0), 1);
        c.due("22: two rules", x.aim(1, 5, 2), 2);
    }

    private static void aimSorts() {
        LayeredRules x = new LayeredRules();
        x.thing(0, 0, 1, 99);
        x.thing(1, 0, 1, 99);
        x.rule(1, 0, 0, 0);
        c.due("22: half of 7, cut, is kept off", x.aim(0, 7, 1), 4);
        c.due("22: half of 1, cut, is none", x.aim(0, 1, 1), 1);
        c.due("22: but the rule is used", x.aim(0, 1, 2), 1);
        x.rule(0, 0, 0, 4);
        x.rule(3, 0, 0, 1);
        c.due("22: by the least number, 4 and then 0", x.aim(0, 7, 1), 0);
        c.due("22: with 0 left no further rule", x.aim(0, 7, 2), 2);
        c.due("22: with 0 left nobody else", x.aim(0, 7, 0), 0);
        x.choice(0, 1);
        c.due("22: led by the greatest, then by the other's choice", x.aim(0, 9, 1), 1);
        c.due("22: to the other", x.aim(0, 9, 0), 1);
        x.choice(1, 1);
        c.due("22: the other chooses the greatest: 4 off, then half of 5", x.aim(0, 9, 1), 3);
        c.due("22: nothing is taken from v", x.ruleOf(1, 1), 4);
        x.rule(4, 1, 1, 0);
        c.due("22: healed", x.aim(0, 9, 1), 0);
        c.due("22: to whom", x.aim(0, 9, 0), 1);
        c.due("22: how many rules", x.aim(0, 9, 2), 2);
        x.clear();
        x.thing(0, 0, 1, 99);
        for (int r = 0; r < 8; r++) {
            x.rule(2, 0, 0, 0);
        }
        c.due("22: 999 at most", x.aim(0, 8, 1), 999);
        c.due("22: 256 times", x.aim(0, 3, 1), 768);
        c.due("22: eight rules", x.aim(0, 3, 2), 8);
    }
}
