/** Promises 29 to 37: seed, deal, sheet, write, item, copy, image, back, count. */
public final class SheetsTest {
    private static final Checks c = new Checks();

    public static void main(String[] args) {
        seed();
        deal();
        sheet();
        writeAndItem();
        copy();
        image();
        fullImage();
        count();
        c.end();
    }

    private static void seed() {
        LayeredRules x = new LayeredRules();
        c.due("29: 1 at first", x.seed(Integer.MIN_VALUE), 1);
        c.due("29: it was", x.seed(-5), Integer.MIN_VALUE);
        c.due("29: z", x.count(7), -5);
    }

    private static void deal() {
        LayeredRules x = new LayeredRules();
        c.due("30: BAD", x.deal(-1), LayeredRules.BAD);
        c.due("30: BAD", x.deal(9), LayeredRules.BAD);
        c.due("30: none", x.deal(0), 0);
        c.due("30: no draws", x.count(7), 1);
        c.due("30: three", x.deal(3), 3);
        int z = 1;
        int[] by = {2, 6, 9, 9};
        for (int t = 0; t < 3; t++) {
            for (int k = 0; k < 4; k++) {
                z = z * 1103515245 + 12345;
                c.due("30: of(" + t + ", " + k + ")", x.of(t, k), (z >>> 16) % by[k] + (k > 1 ? 1 : 0));
            }
        }
        c.due("30: z by twelve draws", x.count(7), z);
        c.due("30: as far as there is room", x.deal(8), 8);
        for (int k = 0; k < 20; k++) {
            z = z * 1103515245 + 12345;
        }
        c.due("30: draws just for those that came", x.count(7), z);
        c.due("30: no room", x.deal(8), 8);
        c.due("30: no draws", x.count(7), z);
        x.clear();
        x.effect(4, 0, 0, 0, -9);
        c.due("30: all of them", x.deal(4), 4);
        c.due("30: die at once", x.count(1), 0);
    }

    private static void sheet() {
        LayeredRules x = new LayeredRules();
        c.due("31: BAD s", x.sheet(4, 0, 1), LayeredRules.BAD);
        c.due("31: BAD s", x.sheet(-1, 0, 1), LayeredRules.BAD);
        c.due("31: BAD sort", x.sheet(0, 2, 1), LayeredRules.BAD);
        c.due("31: BAD sort", x.sheet(0, -2, 1), LayeredRules.BAD);
        c.due("31: BAD n", x.sheet(0, 0, 41), LayeredRules.BAD);
        c.due("31: -14", x.sheet(0, 0, -1), -14);
        c.due("31: BAD ahead of -14", x.sheet(0, 2, -1), LayeredRules.BAD);
        c.due("31: BAD ahead of -14", x.sheet(4, 0, -1), LayeredRules.BAD);
        c.due("31: missing still", x.item(0, 0), -11);
        c.due("31: of 40", x.sheet(0, 1, 40), 1);
        for (int i = 0; i < 40; i++) {
            c.due("31: all 0", x.item(0, i), 0);
            x.write(0, i, i + 1);
        }
        c.due("31: outside", x.item(0, 40), -12);
        c.due("31: refused, so nothing changes", x.sheet(0, 0, 41), LayeredRules.BAD);
        c.due("31: as it was", x.item(0, 39), 40);
        c.due("31: anew", x.sheet(0, 1, 40), 1);
        c.due("31: all 0", x.item(0, 39), 0);
        c.due("31: of none", x.sheet(0, 0, 0), 1);
        c.due("31: outside", x.item(0, 0), -12);
        c.due("31: missing, whatever n is", x.sheet(0, -1, Integer.MAX_VALUE), 1);
        c.due("31: missing", x.item(0, 0), -11);
        c.due("31: missing, whatever n is", x.sheet(0, -1, -7), 1);
    }

    private static void writeAndItem() {
        LayeredRules x = new LayeredRules();
        x.sheet(0, 0, 3);
        x.sheet(3, 1, 3);
        int[] values = {0, 1, 127, 128, 255, 256, -1, -128, -129, Integer.MAX_VALUE, Integer.MIN_VALUE};
        for (int v : values) {
            c.due("32: write", x.write(0, 2, v), 1);
            c.due("33: a byte", x.item(0, 2), (byte) v);
            c.due("32: write", x.write(3, 0, v), 1);
            c.due("33: an int", x.item(3, 0), v);
        }
        c.due("32: the others are 0", x.item(0, 1), 0);
        c.due("32: BAD", x.write(4, 0, 0), LayeredRules.BAD);
        c.due("32: BAD", x.write(-1, 0, 0), LayeredRules.BAD);
        c.due("32: -11", x.write(1, -1, 0), -11);
        c.due("32: -12", x.write(0, 3, 0), -12);
        c.due("32: -12", x.write(0, -1, 0), -12);
        c.due("33: BAD", x.item(4, 0), LayeredRules.BAD);
        c.due("33: BAD", x.item(-1, 0), LayeredRules.BAD);
        c.due("33: -11", x.item(2, 99), -11);
        c.due("33: -12", x.item(3, 3), -12);
        c.due("33: -12", x.item(3, Integer.MIN_VALUE), -12);
    }

    private static void copy() {
        LayeredRules x = new LayeredRules();
        c.due("34: -11", x.copy(0, 0, 1, 0, -1), -11);
        x.sheet(0, 1, 5);
        c.due("34: -11 the second", x.copy(0, 0, 1, 0, 1), -11);
        c.due("34: -11 the first", x.copy(1, 0, 0, 0, 1), -11);
        x.sheet(1, 1, 3);
        x.sheet(2, 0, 5);
        c.due("34: -13", x.copy(0, 0, 2, 0, 1), -13);
        c.due("34: -13 ahead of -12", x.copy(0, 9, 2, 0, -1), -13);
        c.due("34: BAD", x.copy(4, 0, 0, 0, 1), LayeredRules.BAD);
        c.due("34: BAD", x.copy(0, 0, -1, 0, 1), LayeredRules.BAD);
        c.due("34: BAD", x.copy(0, 0, 4, 0, 1), LayeredRules.BAD);
        c.due("34: BAD", x.copy(-1, 0, 0, 0, 1), LayeredRules.BAD);
        x.sheet(3, 1, 3);
        c.due("34: the whole of the last sheet", x.copy(3, 0, 1, 0, 3), 3);
        c.due("34: to the whole of the last sheet", x.copy(1, 0, 3, 0, 3), 3);
        for (int i = 0; i < 5; i++) {
            x.write(0, i, 10 + i);
        }
        int[][] outside = {{0, 0, 1, 0, 4}, {0, 3, 1, 0, 3}, {0, 0, 1, 1, 3}, {0, -1, 1, 0, 1}, {0, 0, 1, -1, 1},
            {0, 0, 1, 0, -1}, {0, 6, 1, 0, 0}, {0, 0, 1, 4, 0}, {0, Integer.MAX_VALUE, 1, 0, 2},
            {0, 2, 1, 2, Integer.MAX_VALUE}, {0, 0, 1, 0, Integer.MIN_VALUE}};
        for (int[] o : outside) {
            c.due("34: -12", x.copy(o[0], o[1], o[2], o[3], o[4]), -12);
        }
        c.due("34: none, at the ends", x.copy(0, 5, 1, 3, 0), 0);
        c.due("34: to another", x.copy(0, 2, 1, 1, 2), 2);
        c.due("34: first", x.item(1, 0), 0);
        c.due("34: second", x.item(1, 1), 12);
        c.due("34: third", x.item(1, 2), 13);
        c.due("34: upwards", x.copy(0, 0, 0, 1, 4), 4);
        int[] up = {10, 10, 11, 12, 13};
        for (int i = 0; i < 5; i++) {
            c.due("34: as they were", x.item(0, i), up[i]);
        }
        c.due("34: downwards", x.copy(0, 2, 0, 0, 3), 3);
        int[] down = {11, 12, 13, 12, 13};
        for (int i = 0; i < 5; i++) {
            c.due("34: as they were", x.item(0, i), down[i]);
        }
    }

    private static void image() {
        LayeredRules x = new LayeredRules();
        c.due("36: STATE", x.back(), LayeredRules.STATE);
        x.deal(3);
        x.thing(1, 4, 5, 6);
        x.effect(4, 5, 3, 1, 1);
        x.effect(1, 0, 0, 3, 0);
        x.lasts(1, 4);
        x.source(1, 2);
        x.set(3, 4, 7);
        x.rule(0, 0, 0, 50);
        x.rule(3, 1, 0, 2);
        x.watch(1, 0, 2, -1, 3);
        x.watches(0, 1, 0);
        x.choice(0, 1);
        x.next();
        String was = Checks.view(x);
        c.due("35: image", x.image(), 4);
        c.that("35: nothing else changes", was.equals(Checks.view(x)));
        for (int times = 0; times < 2; times++) {
            x.ends(0);
            x.hurt(0, 9);
            x.unrule(1);
            x.unwatch(0);
            x.choice(0, 0);
            x.choice(1, 1);
            x.next();
            x.deal(8);
            x.seed(3);
            c.that("36: it was another", !was.equals(Checks.view(x)));
            c.due("36: back", x.back(), 4);
            c.that("36: all is as it was", was.equals(Checks.view(x)));
            c.due("36: the scope of the watcher", x.watches(0, 1, 0), 1);
            c.due("36: the choice", x.choice(0, 1), 1);
            c.due("36: the choice", x.choice(1, 0), 0);
            c.due("36: the source", x.source(1, 2), 2);
            c.due("36: it lasts", x.lasts(1, 3), 3);
        }
        x.clear();
        x.sheet(0, 1, 2);
        x.feed(65, 1);
        c.due("36: back, behind clear", x.back(), 4);
        c.due("36: the tape stays", x.count(6), 1);
        c.due("36: sheets stay", x.item(0, 0), 0);
        x.clear();
        c.due("35: an image of none", x.image(), 0);
        x.deal(2);
        c.due("36: back to none", x.back(), 0);
        c.due("36: none", x.count(0), 0);
    }

    /** All rows full, and all others put in their place: nothing of these stays. */
    private static void fullImage() {
        LayeredRules x = new LayeredRules();
        fill(x, 0);
        x.set(7, 4, 99);
        x.hurt(6, 99);
        String was = Checks.view(x);
        x.image();
        x.clear();
        fill(x, 1);
        for (int t = 0; t < 8; t++) {
            x.set(t, 4, 99);
        }
        c.due("36: back", x.back(), 8);
        c.that("36: all is as it was", was.equals(Checks.view(x)));
        for (int w = 0; w < 8; w++) {
            c.due("36: scopes of watchers", x.watches(w, w % 6, 1), w % 6);
        }
        for (int e = 0; e < 10; e++) {
            c.due("36: effects last", x.lasts(e, e), e);
            c.due("36: sources", x.source(e, e % 3 - 1), e % 3 - 1);
        }
        LayeredRules y = new LayeredRules();
        fill(y, 0);
        y.set(7, 4, 99);
        y.hurt(6, 99);
        for (int k = 0; k < 6; k++) {
            c.due("36: turns go on alike", x.next(), y.next());
            c.due("36: wounds go on alike", x.hurt(k, 1 + k), y.hurt(k, 1 + k));
            c.that("36: alike", Checks.view(x).equals(Checks.view(y)));
        }
    }

    private static void fill(LayeredRules x, int way) {
        for (int t = 0; t < 8; t++) {
            x.thing((t + way) % 2, (t + way) % 6, t + 3 * way, 90 - 5 * t - way);
        }
        for (int e = 0; e < 10; e++) {
            x.effect((e + 5 * way) % 6, (e + 3 * way) % 6, 1, (e + way) % 5, 9 - e);
            x.lasts(e, way == 0 ? e : 9 - e);
            x.source(e, (e + way) % 3 - 1);
        }
        for (int r = 0; r < 8; r++) {
            x.rule(r < 4 ? 0 : way, (r + way) % 6, (r + way) % 2, 20 - r - way);
        }
        for (int w = 0; w < 8; w++) {
            x.watch((w + way) % 2, (w + way) % 3, 1 + (w + way) % 2, w - 1, (w + way) % 4);
            x.watches(w, (w + way) % 6, 1);
        }
    }

    private static void count() {
        LayeredRules x = new LayeredRules();
        x.thing(0, 0, 1, 1);
        x.thing(0, 0, 1, 0);
        x.thing(0, 0, 1, 1);
        x.effect(1, 0, 0, 0, 0);
        x.effect(1, 0, 0, 0, 0);
        x.rule(1, 0, 0, 0);
        for (int w = 0; w < 5; w++) {
            x.watch(0, 1, 0, 0, 0);
        }
        x.next();
        x.feed(0, 4);
        x.seed(-4);
        int[] due = {3, 5, 2, 1, 5, 1, 4, -4};
        for (int what = 0; what < 8; what++) {
            c.due("37: count(" + what + ")", x.count(what), due[what]);
        }
        c.due("37: BAD", x.count(8), LayeredRules.BAD);
        c.due("37: BAD", x.count(-1), LayeredRules.BAD);
    }
}
