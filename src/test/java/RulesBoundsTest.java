/** Promises 14 to 20, 22 and the RULES of the terms: each sentence that names a boundary case. */
public final class RulesBoundsTest {
    private static final Checks c = new Checks();

    public static void main(String[] args) {
        sorts();
        values();
        eightRules();
        ruleOf();
        unrule();
        choice();
        watch();
        eightWatchers();
        watches();
        unwatch();
        aimRefused();
        keptOff();
        halved();
        doubled();
        led();
        healed();
        eachRuleOnce();
        byChoice();
        noneLeft();
        c.end();
    }

    private static void sorts() {
        Run.of(c, "14: sorts 0 to 4", "rule -1 0 0 1 = BAD", "rule 0 0 0 1 = 0", "rule 4 0 0 1 = 1", "rule 5 0 0 1 = BAD", "rule MIN 0 0 1 = BAD",
            "rule MAX 0 0 1 = BAD", "count 3 = 2");
        Run.of(c, "14: BAD: SCOPE", "rule 1 -1 0 0 = BAD", "rule 1 6 0 0 = BAD", "rule 1 MIN 0 0 = BAD", "rule 1 MAX 0 0 = BAD", "rule 1 1 -1 0 = BAD",
            "rule 1 1 2 0 = BAD", "rule 1 2 -1 0 = BAD", "rule 1 2 6 0 = BAD", "rule 1 3 -1 0 = BAD", "rule 1 3 6 0 = BAD", "rule 1 4 -1 0 = BAD",
            "rule 1 4 6 0 = BAD", "rule 1 5 -1 0 = BAD", "rule 1 5 8 0 = BAD", "count 3 = 0", "rule 1 0 MIN 0 = 0", "rule 1 0 MAX 0 = 1",
            "rule 1 1 1 0 = 2", "rule 1 2 5 0 = 3", "rule 1 3 5 0 = 4", "rule 1 4 5 0 = 5", "rule 1 5 7 0 = 6", "rule 1 5 0 0 = 7");
    }

    private static void values() {
        Run.of(c, "14: by 0 v (1 to 99)", "rule 0 0 0 0 = BAD", "rule 0 0 0 1 = 0", "rule 0 0 0 99 = 1", "rule 0 0 0 100 = BAD", "rule 0 0 0 -1 = BAD",
            "rule 0 0 0 MIN = BAD", "rule 0 0 0 MAX = BAD", "ruleOf 0 1 = 1", "ruleOf 1 1 = 99");
        Run.of(c, "14: by 3 THING v (0 to 7), also one that isn't there", "rule 3 0 0 -1 = BAD", "rule 3 0 0 0 = 0", "rule 3 0 0 7 = 1", "rule 3 0 0 8 = BAD",
            "rule 3 0 0 MIN = BAD", "rule 3 0 0 MAX = BAD", "ruleOf 0 1 = 0", "ruleOf 1 1 = 7");
        Run.of(c, "14: BAD: v just by 0, 3", "rule 1 0 0 MIN = 0", "rule 1 0 0 MAX = 1", "rule 2 0 0 MIN = 2", "rule 2 0 0 MAX = 3", "rule 4 0 0 MIN = 4",
            "rule 4 0 0 MAX = 5", "rule 1 0 0 0 = 6", "rule 4 0 0 100 = 7", "ruleOf 1 0 = 1", "ruleOf 2 0 = 2", "ruleOf 5 0 = 4");
    }

    private static void eightRules() {
        Run.of(c, "14: 8 at most", "7* rule 1 0 0 0 = 6", "rule 1 0 0 0 = 7", "count 3 = 8", "rule 1 0 0 0 = FULL", "unrule 7 = 7", "rule 1 0 0 0 = 7",
            "rule 0 0 0 1 = FULL");
        Run.of(c, "14: BAD is named ahead of FULL", "8* rule 1 0 0 0", "rule 5 0 0 0 = BAD", "rule 1 6 0 0 = BAD", "rule 1 1 2 0 = BAD", "rule 0 0 0 0 = BAD",
            "rule 3 0 0 8 = BAD", "rule 3 0 0 7 = FULL");
        Run.of(c, "14: one that was used up makes room", "thing 0 0 1 9 = 0", "8* rule 0 0 0 1", "hurt 0 1 = 0", "count 3 = 7", "rule 2 0 0 0 = 7",
            "rule 2 0 0 0 = FULL", "hurt 0 7 = 0", "count 3 = 1", "ruleOf 0 0 = 2", "of 0 4 = 0");
    }

    private static void ruleOf() {
        Run.of(c, "15: 0 its sort, 1 its v", "rule 0 0 0 9 = 0", "rule 3 0 0 5 = 1", "ruleOf 0 -1 = BAD", "ruleOf 0 0 = 0", "ruleOf 0 1 = 9", "ruleOf 0 2 = BAD",
            "ruleOf 0 MIN = BAD", "ruleOf 0 MAX = BAD", "ruleOf 1 0 = 3", "ruleOf 1 1 = 5", "ruleOf 2 0 = BAD", "ruleOf -1 0 = BAD", "ruleOf MIN 0 = BAD",
            "ruleOf MAX 0 = BAD");
    }

    private static void unrule() {
        Run.of(c, "16: BAD: no such RULE; how many there are", "unrule 0 = BAD", "unrule -1 = BAD", "rule 0 0 0 1 = 0", "unrule 1 = BAD", "unrule MIN = BAD",
            "unrule MAX = BAD", "unrule 0 = 0", "unrule 0 = BAD", "8* rule 0 0 0 1 = 7", "unrule 8 = BAD", "unrule 7 = 7", "unrule 7 = BAD");
        String[] scene = {"rule 0 0 0 1", "rule 0 0 0 2", "rule 0 0 0 3"};
        Run.of(c, "RULES: numbered likewise, the first goes", Run.rows(scene, "unrule 0 = 2", "ruleOf 0 1 = 2", "ruleOf 1 1 = 3", "ruleOf 2 1 = BAD"));
        Run.of(c, "RULES: numbered likewise, one between", Run.rows(scene, "unrule 1 = 2", "ruleOf 0 1 = 1", "ruleOf 1 1 = 3", "ruleOf 2 1 = BAD"));
        Run.of(c, "RULES: numbered likewise, the last goes", Run.rows(scene, "unrule 2 = 2", "ruleOf 0 1 = 1", "ruleOf 1 1 = 2", "ruleOf 2 1 = BAD"));
    }

    private static void choice() {
        Run.of(c, "17: of an OWNER (0, 1)", "choice -1 0 = BAD", "choice 0 0 = 0", "choice 1 0 = 0", "choice 2 0 = BAD", "choice MIN 0 = BAD", "choice MAX 0 = BAD");
        Run.of(c, "17: v (0, 1)", "choice 0 -1 = BAD", "choice 0 0 = 0", "choice 0 1 = 0", "choice 0 2 = BAD", "choice 0 MIN = BAD", "choice 0 MAX = BAD",
            "choice 1 0 = 0", "choice 0 1 = 1", "choice 0 0 = 1", "choice 0 0 = 0", "choice 1 1 = 0", "choice 0 0 = 0", "choice 1 2 = BAD", "choice 1 1 = 1");
    }

    private static void watch() {
        Run.of(c, "18: OWNER (0, 1)", "watch -1 0 0 0 1 = BAD", "watch 0 0 0 0 1 = 0", "watch 1 0 0 0 1 = 1", "watch 2 0 0 0 1 = BAD", "watch MIN 0 0 0 1 = BAD",
            "watch MAX 0 0 0 1 = BAD");
        Run.of(c, "18: on 0 to 2", "watch 0 -1 0 0 1 = BAD", "watch 0 0 0 0 1 = 0", "watch 0 2 0 0 1 = 1", "watch 0 3 0 0 1 = BAD", "watch 0 MIN 0 0 1 = BAD",
            "watch 0 MAX 0 0 1 = BAD");
        Run.of(c, "18: ACT 0 to 2", "watch 0 0 -1 0 1 = BAD", "watch 0 0 0 0 1 = 0", "watch 0 0 2 0 1 = 1", "watch 0 0 3 0 1 = BAD", "watch 0 0 MIN 0 1 = BAD",
            "watch 0 0 MAX 0 1 = BAD");
        Run.of(c, "18: to (0 to 7; -1), also one that isn't there", "watch 0 0 0 -2 1 = BAD", "watch 0 0 0 -1 1 = 0", "watch 0 0 0 0 1 = 1", "watch 0 0 0 7 1 = 2",
            "watch 0 0 0 8 1 = BAD", "watch 0 0 0 MIN 1 = BAD", "watch 0 0 0 MAX 1 = BAD");
        Run.of(c, "18: v (1 to 9; 0)", "watch 0 0 0 0 -1 = BAD", "watch 0 0 0 0 0 = 0", "watch 0 0 0 0 1 = 1", "watch 0 0 0 0 9 = 2", "watch 0 0 0 0 10 = BAD",
            "watch 0 0 0 0 MIN = BAD", "watch 0 0 0 0 MAX = BAD", "count 4 = 3");
    }

    private static void eightWatchers() {
        Run.of(c, "18: 8 at most", "7* watch 0 0 0 0 1 = 6", "watch 0 0 0 0 1 = 7", "count 4 = 8", "watch 0 0 0 0 1 = FULL", "unwatch 0 = 7",
            "watch 0 0 0 0 1 = 7", "watch 0 0 0 0 1 = FULL");
        Run.of(c, "18: BAD is named ahead of FULL", "8* watch 0 0 0 0 1", "watch 2 0 0 0 1 = BAD", "watch 0 3 0 0 1 = BAD", "watch 0 0 3 0 1 = BAD",
            "watch 0 0 0 8 1 = BAD", "watch 0 0 0 0 10 = BAD", "watch 1 2 2 7 9 = FULL");
        Run.of(c, "18: with SCOPE all, where one of another SCOPE was too", "watch 0 0 0 0 1 = 0", "watches 0 5 7 = 0", "unwatch 0 = 0", "watch 0 0 0 0 1 = 0",
            "watches 0 0 0 = 0");
    }

    private static void watches() {
        Run.of(c, "19: BAD: no such WATCHER", "watches 0 0 0 = BAD", "watch 0 0 0 0 1 = 0", "watches -1 0 0 = BAD", "watches 1 0 0 = BAD", "watches MIN 0 0 = BAD",
            "watches MAX 0 0 = BAD", "watches 0 0 0 = 0");
        Run.of(c, "19: BAD: no such SCOPE; how it was told ahead", "watch 0 0 0 0 1 = 0", "watches 0 -1 0 = BAD", "watches 0 6 0 = BAD", "watches 0 MIN 0 = BAD",
            "watches 0 MAX 0 = BAD", "watches 0 1 -1 = BAD", "watches 0 1 2 = BAD", "watches 0 2 -1 = BAD", "watches 0 2 6 = BAD", "watches 0 3 -1 = BAD",
            "watches 0 3 6 = BAD", "watches 0 4 -1 = BAD", "watches 0 4 6 = BAD", "watches 0 5 -1 = BAD", "watches 0 5 8 = BAD", "watches 0 5 7 = 0",
            "watches 0 4 5 = 5", "watches 0 3 5 = 4", "watches 0 2 5 = 3", "watches 0 1 1 = 2", "watches 0 0 MAX = 1", "watches 0 0 MIN = 0", "watches 0 1 2 = BAD");
    }

    private static void unwatch() {
        Run.of(c, "20: BAD: no such WATCHER; how many there are", "unwatch 0 = BAD", "unwatch -1 = BAD", "watch 0 0 0 0 1 = 0", "unwatch 1 = BAD",
            "unwatch MIN = BAD", "unwatch MAX = BAD", "unwatch 0 = 0", "unwatch 0 = BAD", "8* watch 0 0 0 0 1 = 7", "unwatch 8 = BAD", "unwatch 7 = 7",
            "unwatch 7 = BAD");
        String[] scene = {"3* watch 0 0 0 0 1", "watches 0 1 0", "watches 1 2 0", "watches 2 3 0"};
        Run.of(c, "WATCHERS: numbered likewise, the first goes", Run.rows(scene, "unwatch 0 = 2", "watches 0 0 0 = 2", "watches 1 0 0 = 3", "watches 2 0 0 = BAD"));
        Run.of(c, "WATCHERS: numbered likewise, one between", Run.rows(scene, "unwatch 1 = 2", "watches 0 0 0 = 1", "watches 1 0 0 = 3", "watches 2 0 0 = BAD"));
        Run.of(c, "WATCHERS: numbered likewise, the last goes", Run.rows(scene, "unwatch 2 = 2", "watches 0 0 0 = 1", "watches 1 0 0 = 2", "watches 2 0 0 = BAD"));
        Run.of(c, "WATCHERS: full, two go and two come, each for itself", "8* watch 0 0 0 0 1", "watches 0 1 0", "watches 7 5 7", "unwatch 3 = 7", "unwatch 0 = 6", "watch 0 0 0 0 1 = 6",
            "watches 6 2 0 = 0", "watch 0 0 0 0 1 = 7", "watches 7 3 0 = 0", "watch 0 0 0 0 1 = FULL", "watches 5 0 0 = 5", "watches 6 0 0 = 2", "watches 7 0 0 = 3", "watches 0 0 0 = 0");
        Run.of(c, "RULES: full, two go and two come, each for itself", "8* rule 0 0 0 1", "unrule 3 = 7", "unrule 0 = 6", "rule 0 0 0 5 = 6", "rule 0 0 0 6 = 7", "rule 0 0 0 7 = FULL",
            "ruleOf 5 1 = 1", "ruleOf 6 1 = 5", "ruleOf 7 1 = 6");
    }

    private static void aimRefused() {
        Run.of(c, "22: BAD: t", "aim 0 1 0 = BAD", "thing 0 0 1 9 = 0", "aim -1 1 0 = BAD", "aim 1 1 0 = BAD", "aim MIN 1 0 = BAD", "aim MAX 1 0 = BAD", "aim 0 1 0 = 0");
        Run.of(c, "22: BAD: n (1 to 99)", "thing 0 0 1 9 = 0", "aim 0 0 1 = BAD", "aim 0 1 1 = 1", "aim 0 99 1 = 99", "aim 0 100 1 = BAD", "aim 0 -1 1 = BAD",
            "aim 0 MIN 1 = BAD", "aim 0 MAX 1 = BAD");
        Run.of(c, "22: BAD: what (0 to 2)", "thing 0 0 1 9 = 0", "aim 0 5 -1 = BAD", "aim 0 5 0 = 0", "aim 0 5 1 = 5", "aim 0 5 2 = 0", "aim 0 5 3 = BAD",
            "aim 0 5 MIN = BAD", "aim 0 5 MAX = BAD");
        Run.of(c, "22: STATE, BAD ahead of it", "thing 0 0 1 0 = 0", "aim 0 1 0 = STATE", "aim 0 99 2 = STATE", "aim 0 0 0 = BAD", "aim 0 100 0 = BAD",
            "aim 0 1 3 = BAD", "aim 0 1 -1 = BAD");
    }

    private static void keptOff() {
        Run.of(c, "RULES: 0 v are kept off: one less, as many, one more", "thing 0 0 1 99 = 0", "rule 0 0 0 5 = 0", "aim 0 4 1 = 0", "aim 0 5 1 = 0", "aim 0 6 1 = 1",
            "aim 0 99 1 = 94", "ruleOf 0 1 = 5", "unrule 0 = 0", "rule 0 0 0 99 = 0", "aim 0 99 1 = 0", "aim 0 99 2 = 1");
        Run.of(c, "RULES: what is kept off is taken from its v, at 0 the RULE goes", "thing 0 0 1 99 = 0", "rule 0 0 0 5 = 0", "hurt 0 4 = 0", "ruleOf 0 1 = 1",
            "of 0 4 = 0", "hurt 0 1 = 0", "count 3 = 0", "of 0 4 = 0", "rule 0 0 0 5 = 0", "hurt 0 5 = 0", "count 3 = 0", "of 0 4 = 0", "rule 0 0 0 5 = 0",
            "hurt 0 6 = 0", "count 3 = 0", "of 0 4 = 1");
        Run.of(c, "RULES: several go at once, those behind have as many less", "thing 0 0 1 99 = 0", "rule 0 0 0 2 = 0", "rule 4 5 7 0 = 1", "rule 0 0 0 3 = 2",
            "rule 0 0 0 9 = 3", "rule 2 5 7 0 = 4", "hurt 0 6 = 0", "count 3 = 3", "ruleOf 0 0 = 4", "ruleOf 1 0 = 0", "ruleOf 1 1 = 8", "ruleOf 2 0 = 2");
        Run.of(c, "RULES: just those in whose SCOPE it is are used", "thing 0 0 1 99 = 0", "thing 1 3 1 99 = 1", "rule 0 1 1 9 = 0", "rule 0 2 3 9 = 1",
            "rule 0 3 0 9 = 2", "rule 0 4 0 9 = 3", "rule 0 5 1 9 = 4", "aim 0 99 2 = 1", "aim 0 99 1 = 90", "aim 1 99 2 = 4", "aim 1 99 1 = 63",
            "effect 1 0 0 0 0 = 0", "aim 0 99 2 = 1", "aim 1 99 2 = 4", "hurt 0 9 = 0", "count 3 = 4", "ruleOf 2 1 = 9");
    }

    private static void halved() {
        Run.of(c, "RULES: 1 half of them are; quotients are cut", "thing 0 0 1 99 = 0", "rule 1 0 0 0 = 0", "aim 0 1 1 = 1", "aim 0 2 1 = 1", "aim 0 3 1 = 2",
            "aim 0 4 1 = 2", "aim 0 98 1 = 49", "aim 0 99 1 = 50", "aim 0 1 2 = 1", "rule 1 0 0 0 = 1", "aim 0 99 1 = 25", "aim 0 1 1 = 1", "aim 0 1 2 = 2",
            "hurt 0 99 = 0", "of 0 4 = 25", "count 3 = 2");
    }

    private static void doubled() {
        String[] scene = {"thing 0 0 1 99", "5* rule 2 0 0 0"};
        Run.of(c, "RULES: 2 they are doubled (999 at most)", Run.rows(scene, "aim 0 1 1 = 32", "aim 0 31 1 = 992", "aim 0 32 1 = 999", "aim 0 99 1 = 999",
            "aim 0 99 2 = 5", "rule 0 0 0 1 = 5", "aim 0 99 1 = 998", "hurt 0 99 = 0", "of 0 4 = 998"));
        Run.of(c, "RULES: 999 at most each time", Run.rows(scene, "rule 1 0 0 0 = 5", "aim 0 99 1 = 500", "rule 2 0 0 0 = 6", "aim 0 99 1 = 999",
            "aim 0 15 1 = 480", "aim 0 31 1 = 992", "aim 0 32 1 = 999"));
        Run.of(c, "RULES: WOUNDS are so many more (999 at most)", Run.rows(scene, "set 0 4 7", "aim 0 31 1 = 992", "hurt 0 31 = 0", "of 0 4 = 999"));
        Run.of(c, "RULES: WOUNDS are so many more (one beyond 999)", Run.rows(scene, "set 0 4 8", "hurt 0 31 = 0", "of 0 4 = 999"));
        Run.of(c, "RULES: WOUNDS are so many more (one below 999)", Run.rows(scene, "set 0 4 6", "hurt 0 31 = 0", "of 0 4 = 998"));
    }

    private static void led() {
        Run.of(c, "RULES: by 3 just if THING v is another one", "thing 0 0 1 99 = 0", "rule 3 0 0 0 = 0", "aim 0 5 0 = 0", "aim 0 5 2 = 0", "thing 0 0 1 99 = 1",
            "aim 1 5 0 = 0", "aim 1 5 2 = 1");
        Run.of(c, "RULES: by 3 just if THING v is ALIVE", "thing 0 0 1 99 = 0", "rule 3 0 0 1 = 0", "aim 0 5 0 = 0", "aim 0 5 2 = 0", "thing 0 0 1 1 = 1", "aim 0 5 0 = 1",
            "aim 0 5 1 = 5", "aim 0 5 2 = 1", "set 1 4 1 = 0", "aim 0 5 0 = 0", "aim 0 5 2 = 0", "hurt 0 5 = 0", "of 0 4 = 5", "of 1 4 = 1");
        Run.of(c, "RULES: by 3 to the last THING there may be", "7* thing 0 0 1 99 = 6", "rule 3 5 0 7 = 0", "aim 0 5 0 = 0", "thing 0 0 1 99 = 7", "aim 0 5 0 = 7",
            "aim 7 5 0 = 7", "hurt 0 5 = 0", "of 7 4 = 5", "of 0 4 = 0");
        Run.of(c, "RULES: there and back, by each once", "2* thing 0 0 1 99 = 1", "rule 3 5 0 1 = 0", "rule 3 5 1 0 = 1", "aim 0 5 0 = 0", "aim 0 5 2 = 2",
            "aim 1 5 0 = 1", "aim 1 5 2 = 2", "hurt 0 5 = 0", "of 0 4 = 5", "of 1 4 = 0");
        Run.of(c, "RULES: eight led in a row", "8* thing 0 0 1 99 = 7", "rule 3 5 0 1", "rule 3 5 1 2", "rule 3 5 2 3", "rule 3 5 3 4", "rule 3 5 4 5", "rule 3 5 5 6",
            "rule 3 5 6 7", "rule 3 5 7 0", "aim 0 9 0 = 0", "aim 0 9 2 = 8", "aim 5 9 0 = 5", "unrule 7 = 7", "aim 0 9 0 = 7", "aim 0 9 2 = 7", "aim 7 9 0 = 7",
            "aim 7 9 2 = 0");
    }

    private static void healed() {
        String[] scene = {"thing 0 0 1 99", "set 0 4 5", "rule 4 0 0 0"};
        Run.of(c, "RULES: 4 WOUNDS are so many less, one above 0", Run.rows(scene, "aim 0 4 1 = 0", "aim 0 4 0 = 0", "aim 0 4 2 = 1", "hurt 0 4 = 0", "of 0 4 = 1"));
        Run.of(c, "RULES: 4 WOUNDS are so many less, as many", Run.rows(scene, "hurt 0 5 = 0", "of 0 4 = 0"));
        Run.of(c, "RULES: 4 WOUNDS are so many less (0 at least)", Run.rows(scene, "hurt 0 6 = 0", "of 0 4 = 0", "hurt 0 99 = 0", "of 0 4 = 0", "count 3 = 1"));
        Run.of(c, "RULES: healed are so many as are left", Run.rows(scene, "unrule 0", "rule 0 0 0 7 = 0", "rule 4 0 0 0 = 1", "hurt 0 9 = 0", "of 0 4 = 3", "count 3 = 1",
            "ruleOf 0 0 = 4"));
        Run.of(c, "RULES: once healed no further RULE is used", Run.rows(scene, "rule 0 0 0 9 = 1", "aim 0 3 2 = 1", "hurt 0 3 = 0", "ruleOf 1 1 = 9", "of 0 4 = 2"));
        Run.of(c, "RULES: healed is the one to whom they are led", "2* thing 0 0 1 99", "set 0 4 5", "set 1 4 5", "rule 3 5 0 1 = 0", "rule 4 5 1 0 = 1", "aim 0 3 0 = 1",
            "aim 0 3 1 = 0", "hurt 0 3 = 0", "of 0 4 = 5", "of 1 4 = 2");
    }

    private static void eachRuleOnce() {
        Run.of(c, "RULES: one that wasn't used for this, but again for the next", "thing 0 0 1 99 = 0", "rule 2 0 0 0 = 0", "hurt 0 3 = 0", "of 0 4 = 6", "hurt 0 3 = 0",
            "of 0 4 = 12", "aim 0 3 1 = 6");
        Run.of(c, "RULES: a RULE whose SCOPE has both is used for the first alone", "2* thing 0 0 1 99 = 1", "rule 2 0 0 0 = 0", "rule 3 5 0 1 = 1", "aim 0 3 1 = 6",
            "aim 0 3 2 = 2", "aim 0 3 0 = 1");
    }

    private static void byChoice() {
        String[] scene = {"thing 0 0 1 99", "thing 1 0 1 99", "rule 2 0 0 0", "rule 0 0 0 4"};
        Run.of(c, "RULES: by CHOICE the one of least number (0; at first)", Run.rows(scene, "aim 0 5 1 = 6", "aim 1 5 1 = 6"));
        Run.of(c, "RULES: by CHOICE the one of greatest (1)", Run.rows(scene, "choice 0 1 = 0", "aim 0 5 1 = 2", "aim 1 5 1 = 6", "choice 1 1 = 0", "aim 1 5 1 = 2",
            "choice 0 0 = 1", "aim 0 5 1 = 6", "aim 1 5 1 = 2"));
        Run.of(c, "RULES: by CHOICE of the OWNER of the one that is hurt now", Run.rows(scene, "rule 3 5 0 1 = 2", "choice 0 1 = 0", "aim 0 5 0 = 1", "aim 0 5 1 = 6",
            "choice 1 1 = 0", "aim 0 5 1 = 2", "choice 0 0 = 1", "aim 0 5 1 = 6"));
    }

    private static void noneLeft() {
        Run.of(c, "RULES: with 0 left nothing is hurt, and no RULE is used", "2* thing 0 0 1 99", "rule 0 0 0 5 = 0", "rule 3 5 0 1 = 1", "rule 0 0 0 5 = 2", "aim 0 5 0 = 0",
            "aim 0 5 1 = 0", "aim 0 5 2 = 1", "aim 0 6 0 = 1", "aim 0 6 1 = 0", "aim 0 6 2 = 3", "watch 0 0 2 -1 9 = 0", "hurt 0 5 = 0", "of 0 2 = 1", "count 3 = 2",
            "ruleOf 1 1 = 5");
    }
}
