/** Promises 29 to 37 and part 3 of the terms on draws, sheets and the image: each sentence that names a boundary case. */
public final class SheetsBoundsTest {
    private static final Checks c = new Checks();

    public static void main(String[] args) {
        seed();
        deal();
        dealRoom();
        dealWraps();
        sheet();
        missing();
        writeBytes();
        writeInts();
        places();
        item();
        copyRefused();
        copyOutside();
        copyAsTheyWere();
        image();
        imageKeeps();
        imageKeepsNot();
        count();
        countsFull();
        c.end();
    }

    private static void seed() {
        Run.of(c, "29: z becomes v: what it was; 1 at first", "seed 0 = 1", "seed -1 = 0", "seed MIN = -1", "seed MAX = MIN", "seed 1 = MAX", "count 7 = 1");
    }

    private static void deal() {
        Run.of(c, "30: n (0 to 8)", "deal -1 = BAD", "deal 9 = BAD", "deal MIN = BAD", "deal MAX = BAD", "deal 0 = 0", "count 7 = 1", "deal 8 = 8", "count 0 = 8",
            "deal 9 = BAD", "deal -1 = BAD");
        Run.of(c, "30: one", "deal 1 = 1", "count 0 = 1", "deal 0 = 1");
    }

    private static void dealRoom() {
        int afterFour = draws(1, 4);
        Run.of(c, "30: as far as there is room: for one of eight", "7* thing 0 0 1 1 = 6", "deal 8 = 8", "count 7 = " + afterFour, "deal 8 = 8", "count 7 = " + afterFour);
        Run.of(c, "30: as far as there is room: for none", "8* thing 0 0 1 0 = 7", "deal 8 = 8", "count 7 = 1", "deal 0 = 8");
        Run.of(c, "30: each by four DRAWS", "deal 8 = 8", "count 7 = " + draws(1, 32));
    }

    private static int draws(int z, int n) {
        long all = z;
        for (int k = 0; k < n; k++) {
            all = (all * 1103515245L + 12345L) & 0xffffffffL;
        }
        return (int) all;
    }

    /** Seeds around those where z wraps around, and where it is below 0: the draw is never so. */
    private static void dealWraps() {
        int[] seeds = {0, 1, -1, 2, Integer.MAX_VALUE, Integer.MIN_VALUE, 65535, 65536, -65536, 123456789, -987654321};
        int below = 0;
        for (int seed : seeds) {
            long[] draw = new long[4];
            long z = seed & 0xffffffffL;
            for (int k = 0; k < 4; k++) {
                z = (z * 1103515245L + 12345L) & 0xffffffffL;
                draw[k] = z / 65536;
                below += (int) z < 0 ? 1 : 0;
            }
            Run.of(c, "30: the rest by 2; by 6; by 9, and 1; of seed " + seed, "seed " + seed, "deal 1 = 1", "of 0 0 = " + draw[0] % 2, "of 0 1 = " + draw[1] % 6,
                "of 0 2 = " + (draw[2] % 9 + 1), "of 0 3 = " + (draw[3] % 9 + 1), "count 7 = " + (int) z);
        }
        c.that("30: some of these z are below 0", below > 4);
    }

    private static void sheet() {
        Run.of(c, "31: BAD: s (0 to 3)", "sheet -1 0 1 = BAD", "sheet 0 0 1 = 1", "sheet 3 0 1 = 1", "sheet 4 0 1 = BAD", "sheet MIN 0 1 = BAD", "sheet MAX 0 1 = BAD",
            "sheet 4 -1 0 = BAD", "sheet -1 -1 0 = BAD");
        Run.of(c, "31: BAD: sort (-1 to 1)", "sheet 0 -2 1 = BAD", "sheet 0 2 1 = BAD", "sheet 0 MIN 1 = BAD", "sheet 0 MAX 1 = BAD", "item 0 0 = NOTHING", "sheet 0 0 1 = 1",
            "sheet 0 1 1 = 1");
        for (int sort = 0; sort <= 1; sort++) {
            String s = "sheet 1 " + sort;
            Run.of(c, "31: BAD: n above 40; -14: below 0; of sort " + sort, s + " 41 = BAD", s + " MAX = BAD", s + " -1 = SIZE", s + " MIN = SIZE", "item 1 0 = NOTHING",
                s + " 0 = 1", "item 1 0 = OUTSIDE", s + " 1 = 1", "item 1 0 = 0", "item 1 1 = OUTSIDE", s + " 40 = 1", "item 1 39 = 0", "item 1 40 = OUTSIDE", "write 1 39 9",
                s + " 41 = BAD", s + " -1 = SIZE", "item 1 39 = 9");
        }
        Run.of(c, "31: BAD is named ahead of -14", "sheet 4 0 -1 = BAD", "sheet -1 0 -1 = BAD", "sheet 0 2 -1 = BAD", "sheet 0 -2 -1 = BAD", "sheet 0 1 -1 = SIZE");
        Run.of(c, "31: all 0, anew", "sheet 0 1 2", "write 0 0 5", "write 0 1 6", "sheet 0 1 2 = 1", "item 0 0 = 0", "item 0 1 = 0", "write 0 1 6", "sheet 0 1 1 = 1",
            "sheet 0 1 2 = 1", "item 0 1 = 0", "write 0 1 6", "sheet 0 0 2 = 1", "item 0 1 = 0");
    }

    private static void missing() {
        Run.of(c, "31: missing (sort -1; n doesn't matter)", "sheet 0 -1 0 = 1", "item 0 0 = NOTHING", "sheet 0 1 3 = 1", "sheet 0 -1 41 = 1", "item 0 0 = NOTHING",
            "sheet 0 1 3 = 1", "sheet 0 -1 -1 = 1", "item 0 0 = NOTHING", "sheet 0 -1 MIN = 1", "sheet 0 -1 MAX = 1", "write 0 0 1 = NOTHING");
        Run.of(c, "SHEETS: missing (at first)", "item 0 0 = NOTHING", "item 3 0 = NOTHING", "write 0 0 1 = NOTHING", "copy 0 0 1 0 0 = NOTHING");
    }

    private static void writeBytes() {
        Run.of(c, "32: of bytes its lowest bits", "sheet 0 0 1", "write 0 0 127 = 1", "item 0 0 = 127", "write 0 0 128 = 1", "item 0 0 = -128", "write 0 0 255 = 1",
            "item 0 0 = -1", "write 0 0 256 = 1", "item 0 0 = 0", "write 0 0 257 = 1", "item 0 0 = 1", "write 0 0 -1 = 1", "item 0 0 = -1", "write 0 0 -128 = 1",
            "item 0 0 = -128", "write 0 0 -129 = 1", "item 0 0 = 127", "write 0 0 MAX = 1", "item 0 0 = -1", "write 0 0 MIN = 1", "item 0 0 = 0", "write 0 0 65535 = 1",
            "item 0 0 = -1");
    }

    private static void writeInts() {
        Run.of(c, "32: of ints the whole", "sheet 0 1 1", "write 0 0 127 = 1", "item 0 0 = 127", "write 0 0 128 = 1", "item 0 0 = 128", "write 0 0 -129 = 1", "item 0 0 = -129",
            "write 0 0 MAX = 1", "item 0 0 = MAX", "write 0 0 MIN = 1", "item 0 0 = MIN", "write 0 0 65536 = 1", "item 0 0 = 65536");
    }

    private static void places() {
        Run.of(c, "32: BAD: s; -11; -12", "write -1 0 1 = BAD", "write 4 0 1 = BAD", "write MIN 0 1 = BAD", "write MAX 0 1 = BAD", "write 0 0 1 = NOTHING", "write 0 -1 1 = NOTHING",
            "write 0 40 1 = NOTHING", "sheet 0 1 3", "write 0 -1 1 = OUTSIDE", "write 0 0 1 = 1", "write 0 2 1 = 1", "write 0 3 1 = OUTSIDE", "write 0 MIN 1 = OUTSIDE",
            "write 0 MAX 1 = OUTSIDE", "sheet 3 0 40", "write 3 39 1 = 1", "write 3 40 1 = OUTSIDE", "sheet 3 0 0", "write 3 0 1 = OUTSIDE", "write 3 -1 1 = OUTSIDE",
            "write 4 -1 1 = BAD");
    }

    private static void item() {
        Run.of(c, "33: BAD: s; -11; -12", "item -1 0 = BAD", "item 4 0 = BAD", "item MIN 0 = BAD", "item MAX 0 = BAD", "item 0 -1 = NOTHING", "item 0 40 = NOTHING", "sheet 0 1 3",
            "item 0 -1 = OUTSIDE", "item 0 0 = 0", "item 0 2 = 0", "item 0 3 = OUTSIDE", "item 0 MIN = OUTSIDE", "item 0 MAX = OUTSIDE", "item 4 -1 = BAD");
        Run.of(c, "33: it may be as low as these", "sheet 0 1 3", "write 0 0 -11 = 1", "write 0 1 -12 = 1", "write 0 2 -2 = 1", "item 0 0 = -11", "item 0 1 = -12", "item 0 2 = -2",
            "sheet 1 0 1", "write 1 0 -12 = 1", "item 1 0 = -12");
    }

    private static void copyRefused() {
        Run.of(c, "34: BAD: SHEETS", "sheet 0 1 3", "sheet 3 1 3", "copy -1 0 0 0 1 = BAD", "copy 4 0 0 0 1 = BAD", "copy 0 0 -1 0 1 = BAD", "copy 0 0 4 0 1 = BAD",
            "copy MIN 0 0 0 1 = BAD", "copy 0 0 MAX 0 1 = BAD", "copy 0 0 3 0 1 = 1", "copy 3 0 0 0 1 = 1", "copy 1 0 4 0 1 = BAD", "copy 4 0 1 0 1 = BAD");
        Run.of(c, "34: -11: either", "copy 0 0 1 0 0 = NOTHING", "copy 0 0 0 0 0 = NOTHING", "sheet 0 1 3", "copy 0 0 1 0 0 = NOTHING", "copy 1 0 0 0 0 = NOTHING",
            "copy 1 -1 0 9 -1 = NOTHING", "copy 0 -1 1 9 -1 = NOTHING", "sheet 1 1 0", "copy 0 0 1 0 0 = 0");
        Run.of(c, "34: -13: of unlike sorts, ahead of -12", "sheet 0 1 3", "sheet 1 0 3", "copy 0 0 1 0 0 = SORT", "copy 1 0 0 0 1 = SORT", "copy 0 -1 1 0 1 = SORT",
            "copy 0 0 1 0 -1 = SORT", "copy 0 0 1 4 9 = SORT", "copy 0 0 0 0 3 = 3", "copy 1 0 1 0 3 = 3");
    }

    private static void copyOutside() {
        Run.of(c, "34: -12: n below 0, none, all, one more", "sheet 0 1 3", "sheet 1 1 5", "copy 0 0 1 0 -1 = OUTSIDE", "copy 0 0 1 0 MIN = OUTSIDE", "copy 0 0 1 0 0 = 0",
            "copy 0 0 1 0 3 = 3", "copy 0 0 1 0 4 = OUTSIDE", "copy 1 0 0 0 3 = 3", "copy 1 0 0 0 4 = OUTSIDE", "copy 0 0 1 0 MAX = OUTSIDE");
        Run.of(c, "34: -12: from i on", "sheet 0 1 3", "sheet 1 1 5", "copy 0 -1 1 0 1 = OUTSIDE", "copy 0 -1 1 0 0 = OUTSIDE", "copy 0 2 1 0 1 = 1", "copy 0 3 1 0 0 = 0",
            "copy 0 3 1 0 1 = OUTSIDE", "copy 0 4 1 0 0 = OUTSIDE", "copy 0 1 1 0 2 = 2", "copy 0 1 1 0 3 = OUTSIDE", "copy 0 MAX 1 0 1 = OUTSIDE",
            "copy 0 MAX 1 0 MAX = OUTSIDE", "copy 0 MIN 1 0 MIN = OUTSIDE");
        Run.of(c, "34: -12: from j on", "sheet 0 1 5", "sheet 1 1 3", "copy 0 0 1 -1 1 = OUTSIDE", "copy 0 0 1 -1 0 = OUTSIDE", "copy 0 0 1 2 1 = 1", "copy 0 0 1 3 0 = 0",
            "copy 0 0 1 3 1 = OUTSIDE", "copy 0 0 1 4 0 = OUTSIDE", "copy 0 0 1 1 2 = 2", "copy 0 0 1 1 3 = OUTSIDE", "copy 0 0 1 MAX 1 = OUTSIDE", "copy 0 0 1 MIN 1 = OUTSIDE",
            "copy 0 0 1 MAX MAX = OUTSIDE");
        Run.of(c, "34: a SHEET of none, one of 40", "sheet 0 0 0", "sheet 1 0 40", "copy 0 0 0 0 0 = 0", "copy 0 0 1 40 0 = 0", "copy 0 0 1 0 1 = OUTSIDE", "copy 1 0 0 0 1 = OUTSIDE",
            "copy 1 0 1 0 40 = 40", "copy 1 39 1 0 1 = 1", "copy 1 0 1 1 40 = OUTSIDE", "copy 1 0 1 41 0 = OUTSIDE");
    }

    private static void copyAsTheyWere() {
        String[] scene = {"sheet 0 1 4", "write 0 0 1", "write 0 1 2", "write 0 2 3", "write 0 3 4"};
        Run.of(c, "34: or the same, as they were: upwards", Run.rows(scene, "copy 0 0 0 1 3 = 3", "item 0 0 = 1", "item 0 1 = 1", "item 0 2 = 2", "item 0 3 = 3"));
        Run.of(c, "34: or the same, as they were: downwards", Run.rows(scene, "copy 0 1 0 0 3 = 3", "item 0 0 = 2", "item 0 1 = 3", "item 0 2 = 4", "item 0 3 = 4"));
        Run.of(c, "34: or the same, to itself", Run.rows(scene, "copy 0 0 0 0 4 = 4", "item 0 0 = 1", "item 0 3 = 4"));
        Run.of(c, "34: none come", Run.rows(scene, "sheet 1 1 4", "copy 0 2 1 1 0 = 0", "item 1 1 = 0"));
        Run.of(c, "34: just those n", Run.rows(scene, "sheet 1 1 4", "copy 0 1 1 2 1 = 1", "item 1 1 = 0", "item 1 2 = 2", "item 1 3 = 0", "item 0 1 = 2"));
        Run.of(c, "34: of ints and of bytes the whole", "sheet 0 1 1", "sheet 1 1 1", "write 0 0 MIN", "copy 0 0 1 0 1 = 1", "item 1 0 = MIN", "sheet 0 0 1", "sheet 1 0 1",
            "write 0 0 200", "copy 0 0 1 0 1 = 1", "item 1 0 = -56");
    }

    private static void image() {
        Run.of(c, "36: STATE: there is none", "back = STATE", "2* thing 0 0 1 1", "back = STATE", "clear = 2", "back = STATE", "image = 0", "back = 0");
        Run.of(c, "35: how many THINGS: none, one, eight", "image = 0", "thing 0 0 1 1 = 0", "image = 1", "7* thing 0 0 1 0 = 7", "image = 8", "clear = 8", "back = 8", "count 1 = 1");
        Run.of(c, "36: it stays", "thing 0 0 1 1 = 0", "image = 1", "clear = 1", "back = 1", "clear = 1", "back = 1", "thing 0 0 1 1 = 1", "back = 1", "count 0 = 1");
        Run.of(c, "36: the later one", "thing 0 0 1 1 = 0", "image = 1", "thing 0 0 1 1 = 1", "image = 2", "clear = 2", "back = 2");
        Run.of(c, "36: one of none, over one of eight", "8* thing 0 0 1 1", "10* effect 4 0 0 1 1", "8* rule 1 0 0 0", "8* watch 0 0 0 0 1", "image = 8", "clear = 8", "image = 0",
            "thing 0 0 1 1 = 0", "back = 0", "count 2 = 0", "count 3 = 0", "count 4 = 0", "thing 0 0 1 1 = 0", "now 0 2 = 1");
    }

    private static void imageKeeps() {
        Run.of(c, "36: THINGS (how they are, last were)", "thing 0 1 2 9 = 0", "thing 1 5 3 9 = 1", "effect 4 5 1 4 1 = 0", "set 0 4 8 = 0", "set 1 4 10 = 0", "image = 2", "set 0 1 0",
            "set 0 2 0", "set 0 3 99", "set 0 4 98", "back = 2", "of 0 0 = 0", "of 0 1 = 1", "of 0 2 = 2", "of 0 3 = 9", "of 0 4 = 8", "of 0 5 = 1", "now 1 0 = 5", "now 1 2 = 7",
            "now 1 3 = 10", "clear = 2", "2* thing 0 0 0 1", "2* set 1 4 1", "back = 2", "of 1 5 = 0", "of 1 4 = 10", "now 1 0 = 5", "now 1 1 = 0", "now 1 2 = 7", "now 1 3 = 10");
        Run.of(c, "36: OWNERS, MARKS as they last were", "thing 1 0 1 9 = 0", "effect 1 0 0 5 0 = 0", "thing 0 0 1 0 = 1", "image = 2", "clear = 2", "thing 0 0 1 9 = 0", "thing 1 0 1 0 = 1",
            "now 1 1 = 0", "back = 2", "of 0 0 = 1", "of 1 0 = 0", "now 0 1 = 32", "now 1 1 = 32", "ends 0 = 0", "now 0 1 = 0", "now 1 1 = 32");
        Run.of(c, "36: what is dead by then lives again, and the other way round", "thing 0 0 1 9 = 0", "image = 1", "set 0 4 9 = 0", "count 1 = 0", "back = 1", "count 1 = 1",
            "of 0 4 = 0", "set 0 4 9 = 0", "image = 1", "clear = 1", "thing 0 0 1 9 = 0", "back = 1", "count 1 = 0", "set 0 4 0 = STATE");
        Run.of(c, "36: EFFECTS, with SOURCES and TURNS", "thing 0 0 1 9 = 0", "2* effect 4 0 0 3 0 = 1", "source 1 0", "lasts 1 2", "image = 1", "2* ends 0 = 0", "10* effect 0 0 0 1 0",
            "back = 1", "count 2 = 2", "now 0 2 = 7", "now 0 0 = 0", "source 0 -1 = -1", "source 1 0 = 0", "lasts 0 0 = 0", "lasts 1 2 = 2", "order -1 = 2");
        Run.of(c, "36: RULES, as far as they were used up", "thing 0 0 1 9 = 0", "rule 0 0 0 5 = 0", "rule 3 1 1 6 = 1", "hurt 0 2 = 0", "image = 1", "hurt 0 3 = 0", "count 3 = 1",
            "unrule 0 = 0", "8* rule 2 0 0 0", "back = 1", "count 3 = 2", "ruleOf 0 1 = 3", "ruleOf 1 0 = 3", "ruleOf 1 1 = 6", "aim 0 4 1 = 1");
        Run.of(c, "36: WATCHERS, with SCOPES", "thing 0 0 1 9 = 0", "watch 1 0 2 0 4 = 0", "watches 0 5 0", "image = 1", "unwatch 0 = 0", "8* watch 0 1 1 1 1", "back = 1", "count 4 = 1",
            "hurt 0 1 = 1", "of 0 2 = 5", "watches 0 0 0 = 5");
        Run.of(c, "36: CHOICES, whose TURN it is, z", "choice 0 1", "next", "seed 7", "image = 0", "choice 0 0", "choice 1 1", "next", "seed 8", "back = 0", "count 5 = 1", "count 7 = 7",
            "choice 0 0 = 1", "choice 1 0 = 0");
    }

    private static void imageKeepsNot() {
        Run.of(c, "36: THE TAPE and SHEETS are not kept", "tape ab", "sheet 0 1 2", "write 0 1 5", "image = 0", "tape c", "write 0 1 6", "sheet 1 0 1", "back = 0", "count 6 = 3",
            "item 0 1 = 6", "item 1 0 = 0");
        Run.of(c, "35: what comes later doesn't change it", "thing 0 0 1 9 = 0", "effect 4 0 0 1 1 = 0", "rule 0 0 0 5 = 0", "watch 0 0 0 0 1 = 0", "image = 1", "set 0 2 50", "lasts 0 4",
            "hurt 0 1 = 0", "watches 0 5 3", "seed 3", "back = 1", "of 0 2 = 1", "lasts 0 0 = 0", "ruleOf 0 1 = 5", "watches 0 0 0 = 0", "count 7 = 1");
    }

    private static void count() {
        Run.of(c, "37: what 0 to 7", "count -1 = BAD", "count 8 = BAD", "count MIN = BAD", "count MAX = BAD", "count 0 = 0", "count 7 = 1");
    }

    private static void countsFull() {
        Run.of(c, "37: all at their greatest", "8* thing 0 0 1 1", "10* effect 4 0 0 1 1", "8* rule 1 0 0 0", "8* watch 0 0 0 0 1", "next = 0", "30* feed 0 4", "seed MAX", "count 0 = 8",
            "count 1 = 255", "count 2 = 10", "count 3 = 8", "count 4 = 8", "count 5 = 1", "count 6 = 120", "count 7 = MAX", "seed -2 = MAX", "count 7 = -2", "count 8 = BAD",
            "count -1 = BAD");
        Run.of(c, "37: those that are ALIVE (bits): the first, the last", "8* thing 0 0 1 1", "set 0 4 1", "count 1 = 254", "set 7 4 1", "count 1 = 126", "set 3 4 1", "count 1 = 118",
            "count 0 = 8");
    }
}
