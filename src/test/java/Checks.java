/** What the tests share: each compares answers with those that are due and counts the wrong ones. */
final class Checks {
    private int wrong = 0;
    private int made = 0;

    void due(String call, int got, int want) {
        made++;
        if (got != want) {
            wrong++;
            System.out.println(call + " answered " + got + ", due is " + want);
        }
    }

    void that(String what, boolean holds) {
        due(what, holds ? 1 : 0, 1);
    }

    void end() {
        System.out.println(wrong == 0 ? made + " answers are as due" : wrong + " of " + made + " answers are not as due");
        if (wrong != 0) {
            System.exit(1);
        }
    }

    /** Puts a text of any length up to 120 on the tape. */
    static void type(LayeredRules x, String text) {
        for (int i = 0; i < text.length(); i++) {
            x.feed(text.charAt(i), 1);
        }
    }

    static int read(LayeredRules x, String text) {
        x.wipe();
        type(x, text);
        return x.text();
    }

    static String sheet(LayeredRules x, int s, int n) {
        StringBuilder all = new StringBuilder();
        for (int i = 0; i < n; i++) {
            all.append((char) x.item(s, i));
        }
        return all.toString();
    }

    /** All that queries can see of an object, but what a text or a draw would bring. */
    static String view(LayeredRules x) {
        StringBuilder all = new StringBuilder();
        for (int what = 0; what <= 7; what++) {
            all.append(x.count(what)).append(' ');
        }
        for (int t = 0; t < 8; t++) {
            for (int what = 0; what <= 5; what++) {
                all.append(x.of(t, what)).append(',').append(x.now(t, what)).append(' ');
            }
        }
        for (int how = 0; how <= 5; how++) {
            for (int k = 0; k <= 7; k++) {
                all.append(x.scope(how, k)).append(' ');
            }
        }
        for (int i = -1; i < 10; i++) {
            all.append(x.order(i)).append(' ');
            for (int f = 0; f < 10; f++) {
                all.append(x.depends(i, f)).append(' ');
            }
        }
        for (int r = 0; r < 8; r++) {
            all.append(x.ruleOf(r, 0)).append(',').append(x.ruleOf(r, 1)).append(' ');
            for (int what = 0; what <= 2; what++) {
                all.append(x.aim(r, 17, what)).append(',').append(x.aim(r, 1, what)).append(' ');
            }
        }
        for (int i = -1; i <= 40; i++) {
            all.append(x.shown(i)).append(' ');
        }
        for (int s = 0; s < 4; s++) {
            for (int i = 0; i <= 40; i++) {
                all.append(x.item(s, i)).append(' ');
            }
        }
        return all.toString();
    }
}
