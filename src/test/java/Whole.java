import java.util.List;

/**
 * All that can be seen of an object behind a row of calls, as a text. What can't be asked without changing
 * something is looked at on objects of their own, each made by the same calls.
 */
final class Whole {
    private Whole() {
    }

    static String of(List<String> calls) {
        StringBuilder all = new StringBuilder(butShown(calls));
        LayeredRules x = Run.behind(calls);
        for (int i = -1; i <= 40; i++) {
            all.append(x.shown(i)).append(' ');
        }
        return all.toString();
    }

    static String butShown(List<String> calls) {
        StringBuilder all = new StringBuilder();
        things(Run.behind(calls), all);
        questions(Run.behind(calls), all);
        effects(Run.behind(calls), all);
        told(Run.behind(calls), all);
        sheets(Run.behind(calls), all);
        LayeredRules read = Run.behind(calls);
        all.append("text ").append(read.text()).append(' ');
        effects(read, all);
        LayeredRules back = Run.behind(calls);
        all.append("back ").append(back.back()).append(' ');
        things(back, all);
        effects(back, all);
        happenings(calls, all);
        return all.toString();
    }

    private static void happenings(List<String> calls, StringBuilder all) {
        LayeredRules turns = Run.behind(calls);
        for (int k = 0; k < 2; k++) {
            all.append("\nnext ").append(turns.next()).append(' ');
            things(turns, all);
        }
        int count = turns.count(0);
        for (int t = 0; t < count; t++) {
            LayeredRules x = Run.behind(calls);
            all.append("\nhurt ").append(x.hurt(t, 7)).append(' ');
            things(x, all);
        }
    }

    private static void things(LayeredRules x, StringBuilder all) {
        all.append("\nthings ");
        for (int what = 0; what <= 7; what++) {
            all.append(x.count(what)).append(' ');
        }
        for (int t = 0; t < x.count(0); t++) {
            for (int what = 0; what <= 5; what++) {
                all.append(x.of(t, what)).append(' ').append(x.now(t, what)).append(' ');
            }
        }
        for (int r = 0; r < x.count(3); r++) {
            all.append(x.ruleOf(r, 0)).append(' ').append(x.ruleOf(r, 1)).append(' ');
        }
    }

    private static void questions(LayeredRules x, StringBuilder all) {
        all.append("\nquestions ");
        for (int i = -1; i <= 10; i++) {
            all.append(x.order(i)).append(' ');
        }
        for (int e = 0; e < 10; e++) {
            for (int f = 0; f < 10; f++) {
                all.append(x.depends(e, f)).append(' ');
            }
        }
        for (int t = 0; t < x.count(0); t++) {
            for (int what = 0; what <= 2; what++) {
                all.append(x.aim(t, 1, what)).append(' ').append(x.aim(t, 17, what)).append(' ');
            }
        }
    }

    /** What just calls tell that change it. */
    private static void effects(LayeredRules x, StringBuilder all) {
        all.append("\neffects ");
        for (int e = 0; e < x.count(2); e++) {
            all.append(x.lasts(e, 0)).append(' ').append(x.source(e, -1)).append(' ');
        }
        all.append(x.choice(0, 0)).append(' ').append(x.choice(1, 0)).append(' ');
        for (int w = 0; w < x.count(4); w++) {
            all.append(x.watches(w, 0, 0)).append(' ');
        }
    }

    private static void told(LayeredRules x, StringBuilder all) {
        all.append("\ntold ");
        for (int e = 0; e < x.count(2); e++) {
            all.append(Checks.sheet(x, 0, x.tell(e, 0))).append("; ");
        }
    }

    private static void sheets(LayeredRules x, StringBuilder all) {
        all.append("\nsheets ");
        for (int s = 0; s < 4; s++) {
            for (int i = 0; i <= 40; i++) {
                all.append(x.item(s, i)).append(' ');
            }
            all.append(x.write(s, 0, 200)).append(' ').append(x.item(s, 0)).append(' ');
        }
    }
}
