/** Promises 25 to 28: feed, wipe, text, tell. */
public final class TextsTest {
    private static final Checks c = new Checks();

    public static void main(String[] args) {
        feed();
        everyPhrase();
        tokens();
        faults();
        room();
        aTextIsOneCall();
        tell();
        tellAndReadAgain();
        c.end();
    }

    private static void feed() {
        LayeredRules x = new LayeredRules();
        c.due("25: BAD", x.feed(0, 0), LayeredRules.BAD);
        c.due("25: BAD", x.feed(0, 5), LayeredRules.BAD);
        c.due("25: BAD", x.feed(0, -1), LayeredRules.BAD);
        c.due("25: the highest first", x.feed(('a' << 16) + ('l' << 8) + 'l', 3), 3);
        c.due("25: of higher bytes none", x.feed(0x7f7f7f00 + ' ', 1), 4);
        c.due("25: four", x.feed(('s' << 24) + ('w' << 16) + ('a' << 8) + 'p', 4), 8);
        c.due("25: two", x.feed(('s' << 8) + ' ', 2), 10);
        c.due("25: bytes", x.count(6), 10);
        c.due("27: a text", x.text(), 1);
        c.due("27: the tape is empty", x.count(6), 0);
        for (int k = 1; k <= 29; k++) {
            c.due("25: feed", x.feed(-1, 4), 4 * k);
        }
        c.due("25: feed", x.feed(0, 2), 118);
        c.due("25: FULL", x.feed(0, 3), LayeredRules.FULL);
        c.due("25: BAD ahead of FULL", x.feed(0, 5), LayeredRules.BAD);
        c.due("25: to the last byte", x.feed(0, 2), 120);
        c.due("25: FULL", x.feed(0, 1), LayeredRules.FULL);
        c.due("26: wipe", x.wipe(), 120);
        c.due("26: wipe", x.wipe(), 0);
        c.due("26: empty", x.count(6), 0);
    }

    private static void everyPhrase() {
        LayeredRules x = new LayeredRules();
        x.thing(0, 1, 3, 30);
        x.thing(1, 2, 5, 50);
        c.due("27: phrases", Checks.read(x, "all gains 3;owner 1 gains 4;type 1 is 5;with 3 sets 2 9;without 4 gets 1 -4;thing 1 swaps"), 6);
        c.due("27: effects", x.count(2), 6);
        c.due("27: type", x.now(0, 0), 5);
        c.due("27: marks", x.now(0, 1), 8);
        c.due("27: marks", x.now(1, 1), 24);
        c.due("27: force", x.now(0, 2), 3);
        c.due("27: guard", x.now(0, 3), 5);
        c.due("27: swapped", x.now(1, 2), 9);
        c.due("27: swapped", x.now(1, 3), 2);
        c.due("27: loses", Checks.read(x, "with 4 loses 4"), 1);
        c.due("27: marks", x.now(1, 1), 8);
        c.due("27: without source", x.source(6, -1), -1);
        c.due("27: for good", x.lasts(6, 0), 0);
    }

    private static void tokens() {
        LayeredRules x = new LayeredRules();
        c.due("27: no blanks", Checks.read(x, "all gets1-2;type2is3;with0swaps"), 3);
        x.clear();
        c.due("27: many blanks", Checks.read(x, "   all   sets  -  3   -  0  ;  thing  007  swaps   "), 2);
        c.due("27: the phrase", x.tell(0, 0), 13);
        c.that("27: the phrase", Checks.sheet(x, 0, 13).equals("all sets -3 0"));
        c.due("27: the phrase", x.tell(1, 0), 13);
        c.that("27: the phrase", Checks.sheet(x, 0, 13).equals("thing 7 swaps"));
        c.due("27: zeros", Checks.read(x, "all gets 00000000000000000009 -0000000000000000001"), 1);
        c.that("27: told plainly", x.tell(2, 0) == 13 && Checks.sheet(x, 0, 13).equals("all gets 9 -1"));
    }

    private static void faults() {
        String[] texts = {"", "   ", "x", "all", "all ", "alls swaps", "al lswaps", "swaps", "all all", "all 1 swaps",
            "owner swaps", "owner 2 swaps", "type 6 swaps", "with 6 swaps", "without 6 swaps", "thing 8 swaps",
            "thing 10 swaps", "owner -1 swaps", "all is 6", "all is", "all is -1", "all gains 6", "all loses 9",
            "all sets 1", "all sets 1 2 3", "all sets - - 1 2", "all sets -10 2", "all gets 1 -", "all gets 1 10",
            "all swaps;", "all swaps ; ", "all swaps all swaps", ";all swaps", "all swaps;;", "all swaps 1",
            "all Swaps", "all swapS", "all\tswaps", "all swaps\n", "all is 1.", "all gets 99999999999999999999 1",
            "all is 4294967296", "all swaps;type 1 is 7", "all,swaps", "without", "all isall", "all gets 1 2-", "all swapsz", "all swapsa"};
        int[] due = {0, 3, 0, 3, 4, 0, 0, 0, 4, 4,
            6, 6, 5, 5, 8, 6,
            6, 6, 7, 6, 7, 10, 10,
            10, 13, 11, 10, 12, 11,
            10, 12, 10, 0, 10, 10,
            4, 4, 3, 9, 8, 9,
            7, 20, 3, 7, 4, 12, 4, 4};
        LayeredRules x = new LayeredRules();
        for (int i = 0; i < texts.length; i++) {
            c.due("27: FAULT of '" + texts[i] + "'", Checks.read(x, texts[i]), -100 - due[i]);
            c.due("27: nothing comes of it", x.count(2), 0);
            c.due("27: the tape is empty", x.count(6), 0);
        }
        x.feed(200, 1);
        c.due("27: a byte above 127", x.text(), -100);
        x.feed(0, 1);
        c.due("27: a byte 0", x.text(), -100);
        Checks.type(x, "all swaps");
        x.feed(0, 1);
        c.due("27: a byte 0 at the end", x.text(), -109);
        for (int k = 0; k < 120; k++) {
            x.feed('a', 1);
        }
        c.due("27: a long word", x.text(), -100);
        for (int k = 0; k < 120; k++) {
            x.feed(' ', 1);
        }
        c.due("27: blanks alone", x.text(), -220);
    }

    private static void room() {
        LayeredRules x = new LayeredRules();
        String ten = "all swaps;all swaps;all swaps;all swaps;all swaps;all swaps;all swaps;all swaps;all swaps;all swaps";
        c.due("27: one too many", Checks.read(x, ten + ";all swaps"), -200);
        c.due("27: none came", x.count(2), 0);
        c.due("27: too early, ahead of a word", Checks.read(x, ten + "; "), -201);
        c.due("27: ten", Checks.read(x, ten), 10);
        c.due("27: no room", Checks.read(x, " all swaps"), -101);
        c.due("27: no room, and no text", Checks.read(x, "  "), -102);
        x.ends(0);
        c.due("27: a fault ahead of the room", Checks.read(x, "all swap;all swaps"), -104);
        c.due("27: room for one", Checks.read(x, "all swaps ;  all swaps"), -113);
        c.due("27: room for one", Checks.read(x, "all swaps"), 1);
    }

    /** Rounds come behind the whole text: the second phrase saves what the first alone would kill. */
    private static void aTextIsOneCall() {
        LayeredRules x = new LayeredRules();
        x.thing(0, 0, 1, 3);
        c.due("27: two phrases", Checks.read(x, "all gets 0 -5;all gets 0 9"), 2);
        c.due("27: it lives", x.count(1), 1);
        c.due("27: a third", Checks.read(x, "all sets 0 -9"), 1);
        c.due("27: it dies", x.count(1), 0);
    }

    private static void tell() {
        LayeredRules x = new LayeredRules();
        x.effect(0, 0, 5, 4, 9);
        x.effect(1, 1, 1, 5, 9);
        x.effect(2, 2, 5, 0, 9);
        x.effect(3, 3, 4, -9, 0);
        x.effect(4, 4, 3, 7, -9);
        x.effect(5, 5, 7, 8, 9);
        String[] due = {"all is 4", "owner 1 gains 5", "type 5 loses 0", "with 4 sets -9 0", "without 3 gets 7 -9", "thing 7 swaps"};
        x.sheet(2, 1, 40);
        x.write(2, 30, 5);
        for (int e = 0; e < due.length; e++) {
            c.due("28: tell", x.tell(e, 2), due[e].length());
            c.that("28: " + due[e], Checks.sheet(x, 2, due[e].length()).equals(due[e]));
            c.due("28: no longer", x.item(2, due[e].length()), -12);
        }
        x.write(2, 0, 300);
        c.due("28: it is a row of bytes", x.item(2, 0), 44);
        c.due("28: BAD effect", x.tell(6, 0), LayeredRules.BAD);
        c.due("28: BAD effect", x.tell(-1, 0), LayeredRules.BAD);
        c.due("28: BAD sheet", x.tell(0, 4), LayeredRules.BAD);
        c.due("28: BAD sheet", x.tell(0, -1), LayeredRules.BAD);
        c.due("28: still missing", x.item(0, 0), -11);
    }

    private static void tellAndReadAgain() {
        LayeredRules x = new LayeredRules();
        for (int how = 0; how <= 5; how++) {
            for (int sort = 0; sort <= 5; sort++) {
                x.clear();
                x.effect(sort, how, 1, 3, sort > 2 ? -4 : 0);
                String told = Checks.sheet(x, 1, x.tell(0, 1));
                x.clear();
                c.due("28: read again", Checks.read(x, told), 1);
                c.that("28: told again", told.equals(Checks.sheet(x, 3, x.tell(0, 3))));
            }
        }
    }
}
