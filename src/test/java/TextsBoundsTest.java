import java.util.ArrayList;
import java.util.Arrays;
import java.util.List;

/** Promises 25 to 28 and part 3 of the terms on texts: each sentence that names a boundary case. */
public final class TextsBoundsTest {
    private static final Checks c = new Checks();
    private static final String NINE = "all swaps;all swaps;all swaps;all swaps;all swaps;all swaps;all swaps;all swaps;all swaps";

    public static void main(String[] args) {
        feedCounts();
        feedOrder();
        fullTape();
        wipe();
        nothing();
        words();
        numbers();
        ranges();
        values();
        signs();
        blanks();
        everyByte();
        tooEarly();
        phrases();
        room();
        longest();
        withoutSource();
        aFaultAndTheTape();
        tellRefused();
        tellLongest();
        tellOverAnything();
        c.end();
    }

    private static void feedCounts() {
        Run.of(c, "25: n 1 to 4", "feed 0 0 = BAD", "feed 0 1 = 1", "feed 0 2 = 3", "feed 0 3 = 6", "feed 0 4 = 10", "feed 0 5 = BAD", "feed 0 -1 = BAD", "feed 0 MIN = BAD",
            "feed 0 MAX = BAD", "count 6 = 10");
    }

    private static void feedOrder() {
        Run.of(c, "25: the n lowest bytes, the highest of these first: 1", "tape all swap", "feed " + bytes("xyzs") + " 1 = 9", "text = 1");
        Run.of(c, "25: the n lowest bytes, the highest of these first: 2", "tape all swa", "feed " + bytes("yzps") + " 2 = 9", "text = 1");
        Run.of(c, "25: the n lowest bytes, the highest of these first: 3", "tape all sw", "feed " + bytes("zaps") + " 3 = 9", "text = 1");
        Run.of(c, "25: the n lowest bytes, the highest of these first: 4", "tape all s", "feed " + bytes("waps") + " 4 = 9", "text = 1");
        Run.of(c, "25: of a number below 0", "feed -1 1 = 1", "text = FAULT 0", "tape all", "feed " + (0xffff0000 + bytes("  ")) + " 2 = 5", "tape swaps", "text = 1",
            "feed " + (0x80000000 + bytes("all ")) + " 4 = 4", "text = FAULT 0");
    }

    private static int bytes(String text) {
        int all = 0;
        for (int i = 0; i < text.length(); i++) {
            all = all << 8 | text.charAt(i);
        }
        return all;
    }

    private static void fullTape() {
        Run.of(c, "25: 120 at most: to the last byte by 4", "29* feed 0 4 = 116", "feed 0 4 = 120", "feed 0 1 = FULL", "feed 0 4 = FULL", "count 6 = 120");
        Run.of(c, "25: 120 at most: one too many by 4", "29* feed 0 4 = 116", "feed 0 1 = 117", "feed 0 4 = FULL", "count 6 = 117", "feed 0 3 = 120", "feed 0 1 = FULL");
        Run.of(c, "25: 120 at most: one too many by 3, by 2", "29* feed 0 4 = 116", "feed 0 2 = 118", "feed 0 3 = FULL", "feed 0 1 = 119", "feed 0 2 = FULL", "feed 0 1 = 120");
        Run.of(c, "25: BAD is named ahead of FULL", "30* feed 0 4 = 120", "feed 0 0 = BAD", "feed 0 5 = BAD", "feed 0 MAX = BAD", "feed 0 4 = FULL");
        Run.of(c, "25: by one that is refused no byte comes", "27* feed " + bytes("    ") + " 4 = 108", "tape all swaps", "count 6 = 117", "feed " + bytes("abcd") + " 4 = FULL", "text = 1");
    }

    private static void wipe() {
        Run.of(c, "26: how many it had: none, one, 120", "wipe = 0", "feed 0 1 = 1", "wipe = 1", "wipe = 0", "30* feed 0 4 = 120", "wipe = 120", "count 6 = 0", "feed 0 1 = 1");
    }

    private static void fault(String text, int place) {
        Run.of(c, "27: FAULT of '" + text + "'", "effect 1 5 3 2 0", "tape " + text, "text = FAULT " + place, "count 2 = 1", "count 6 = 0");
    }

    private static void reads(String text, String... told) {
        List<String> rows = new ArrayList<>(Arrays.asList("tape " + text, "text = " + told.length, "count 6 = 0", "count 2 = " + told.length));
        for (int e = 0; e < told.length; e++) {
            rows.add("tell " + e + " 0 = " + told[e].length());
            rows.add("reads 0 " + told[e]);
        }
        Run.of(c, "27: '" + text + "' is a TEXT", rows.toArray(new String[0]));
    }

    private static void nothing() {
        Run.of(c, "27: an empty TAPE ends too early", "text = FAULT 0", "count 6 = 0", "text = FAULT 0");
        fault(" ", 1);
        fault("   ", 3);
        fault(";", 0);
        fault(" ;", 1);
    }

    /** Each as long as can be; of a to z. */
    private static void words() {
        reads("all swaps", "all swaps");
        reads("all is 0", "all is 0");
        fault("al swaps", 0);
        fault("alll swaps", 0);
        fault("allswaps", 0);
        fault("al l swaps", 0);
        fault("all swap", 4);
        fault("all swapss", 4);
        fault("all sw aps", 4);
        fault("without1 swap", 9);
        fault("withou 1 swaps", 0);
        fault("withoutt 1 swaps", 0);
        fault("with out 1 swaps", 5);
        fault("owners 1 swaps", 0);
        fault("own 1 swaps", 0);
        fault("All swaps", 0);
        fault("all Swaps", 4);
        fault("all swapS", 4);
        fault("is 1", 0);
        fault("swaps", 0);
        fault("all all", 4);
        fault("all owner 1", 4);
        fault("a swaps", 0);
        fault("z swaps", 0);
        fault("all a", 4);
        fault("all zz", 4);
    }

    private static void numbers() {
        reads("thing 7 gets 9 9", "thing 7 gets 9 9");
        reads("thing 007 gets 09 0000000009", "thing 7 gets 9 9");
        reads("all gets 000 -000", "all gets 0 0");
        fault("all gets 10 1", 9);
        fault("all gets 1 10", 11);
        fault("all gets 010 1", 9);
        fault("all gets 11 1", 9);
        fault("all gets 99 1", 9);
        fault("all gets 100 1", 9);
        fault("all gets 256 1", 9);
        fault("all gets 4294967296 1", 9);
        fault("all gets 4294967297 1", 9);
        fault("all gets 18446744073709551616 1", 9);
        fault("all gets 1 0 2", 13);
        fault("all gets one 2", 9);
    }

    private static void ranges() {
        String[] words = {"owner", "type", "with", "without", "thing"};
        int[] most = {1, 5, 5, 5, 7};
        for (int k = 0; k < words.length; k++) {
            reads(words[k] + " 0 swaps", words[k] + " 0 swaps");
            reads(words[k] + " " + most[k] + " swaps", words[k] + " " + most[k] + " swaps");
            fault(words[k] + " " + (most[k] + 1) + " swaps", words[k].length() + 1);
            fault(words[k] + " 9 swaps", words[k].length() + 1);
            fault(words[k] + " 10 swaps", words[k].length() + 1);
            fault(words[k] + " -1 swaps", words[k].length() + 1);
            fault(words[k] + " -0 swaps", words[k].length() + 1);
            fault(words[k] + " swaps", words[k].length() + 1);
            fault(words[k] + " ;", words[k].length() + 1);
        }
        for (String deed : new String[] {"is", "gains", "loses"}) {
            int place = 5 + deed.length();
            reads("all " + deed + " 0", "all " + deed + " 0");
            reads("all " + deed + " 5", "all " + deed + " 5");
            fault("all " + deed + " 6", place);
            fault("all " + deed + " 9", place);
            fault("all " + deed + " 10", place);
            fault("all " + deed + " -1", place);
            fault("all " + deed + " -0", place);
            fault("all " + deed + " x", place);
            fault("all " + deed + " ;", place);
            fault("all " + deed + " 5 5", place + 2);
        }
        fault("all 1 swaps", 4);
        fault("all - swaps", 4);
    }

    private static void values() {
        for (String deed : new String[] {"sets", "gets"}) {
            reads("all " + deed + " 0 0", "all " + deed + " 0 0");
            reads("all " + deed + " 9 9", "all " + deed + " 9 9");
            reads("all " + deed + " -9 -9", "all " + deed + " -9 -9");
            reads("all " + deed + " -1 1", "all " + deed + " -1 1");
            reads("all " + deed + " - 1 - 2", "all " + deed + " -1 -2");
            reads("all " + deed + " -0 -0", "all " + deed + " 0 0");
            reads("all " + deed + "1-2", "all " + deed + " 1 -2");
            reads("all " + deed + "-1-2", "all " + deed + " -1 -2");
            fault("all " + deed + " -10 0", 10);
            fault("all " + deed + " 0 -10", 12);
            fault("all " + deed + " --1 0", 10);
            fault("all " + deed + " 0 --1", 12);
            fault("all " + deed + " -;", 10);
            fault("all " + deed + " -x", 10);
            fault("all " + deed + " 1 ;", 11);
            fault("all " + deed + " 1 x", 11);
            fault("all " + deed + " 1 2 3", 13);
            fault("all " + deed + " 1 2 -", 13);
            fault("all " + deed + " 1 2-3", 12);
            fault("all " + deed + " +1 2", 9);
        }
    }

    private static void signs() {
        reads("all swaps;all swaps", "all swaps", "all swaps");
        reads("all swaps ; all swaps", "all swaps", "all swaps");
        fault("all swaps;", 10);
        fault("all swaps; ", 11);
        fault("all swaps ;", 11);
        fault("all swaps;;", 10);
        fault("all swaps;;all swaps", 10);
        fault(";all swaps", 0);
        fault("- all swaps", 0);
        fault("all swaps -", 10);
        fault("all;swaps", 3);
        fault("all swaps all swaps", 10);
        fault("all swaps 1", 10);
        fault("all swaps swaps", 10);
        fault("all swaps,all swaps", 9);
    }

    private static void blanks() {
        reads("all    swaps", "all swaps");
        reads("type1is2", "type 1 is 2");
        reads("type1is2;with0swaps;all gets1-1", "type 1 is 2", "with 0 swaps", "all gets 1 -1");
        reads("  all swaps", "all swaps");
        reads("all swaps  ", "all swaps");
        fault("  al swaps", 2);
        fault("all  swap", 5);
        fault("all swaps  all", 11);
    }

    /** Each byte behind a whole phrase, and as the first one. */
    private static void everyByte() {
        for (int b = 0; b < 256; b++) {
            boolean word = b >= 'a' && b <= 'z';
            String due = b == ' ' ? "1" : b == ';' ? "FAULT 10" : word ? "FAULT 4" : "FAULT 9";
            Run.of(c, "27: a byte that begins none: " + b + " at the end", "tape all swaps", "feed " + b + " 1 = 10", "text = " + due);
            String first = b == ' ' ? "1" : "FAULT 0";
            Run.of(c, "27: a byte that begins none: " + b + " at the beginning", "feed " + b + " 1 = 1", "tape all swaps", "text = " + first);
        }
    }

    /** How many bytes there are, if it ends too early: behind each token, with and without blanks. */
    private static void tooEarly() {
        String[] tokens = {"all ", "gets ", "- ", "5 ", "- ", "6 ", "; ", "owner ", "1 ", "is ", "4 "};
        boolean[] whole = {false, false, false, false, false, true, false, false, false, false, true};
        StringBuilder text = new StringBuilder();
        for (int k = 0; k < tokens.length; k++) {
            text.append(tokens[k]);
            if (!whole[k]) {
                fault(text.toString(), text.length());
                fault(text.toString().trim(), text.length() - 1);
                fault(text + "   ", text.length() + 3);
            } else {
                Run.of(c, "27: whole by '" + text + "'", "tape " + text, "text = " + (k > 5 ? 2 : 1));
            }
        }
    }

    private static void phrases() {
        reads("all is 1;owner 0 gains 2;type 3 loses 4;with 5 sets -6 7;without 4 gets 8 -9;thing 7 swaps", "all is 1", "owner 0 gains 2", "type 3 loses 4",
            "with 5 sets -6 7", "without 4 gets 8 -9", "thing 7 swaps");
        Run.of(c, "27: with a FAULT in the last PHRASE nothing comes of the first", "thing 0 0 1 9 = 0", "tape all gets 5 5;all is 3;all is 6", "text = FAULT 29",
            "count 2 = 0", "now 0 2 = 1");
        Run.of(c, "27: all that it tells is so", "thing 0 0 1 9 = 0", "tape all gets 5 5;all is 3;type 3 swaps", "text = 3", "now 0 0 = 3", "now 0 2 = 14", "now 0 3 = 6");
    }

    private static void room() {
        Run.of(c, "27: the WORD of a SCOPE for which there is no room: ten fit", "tape " + NINE + ";all swaps", "text = 10", "count 2 = 10");
        Run.of(c, "27: the WORD of a SCOPE for which there is no room: the eleventh", "tape " + NINE + ";all swaps;all swaps", "text = FAULT 100", "count 2 = 0");
        Run.of(c, "27: the WORD of a SCOPE for which there is no room: one is there", "effect 4 0 0 1 1", "tape " + NINE, "text = 9", "count 2 = 10");
        Run.of(c, "27: the WORD of a SCOPE for which there is no room: one is there, and ten", "effect 4 0 0 1 1", "tape " + NINE + ";  all swaps", "text = FAULT 92",
            "count 2 = 1");
        Run.of(c, "27: no room for one", "10* effect 4 0 0 1 1", "tape all swaps", "text = FAULT 0", "tape   all swaps", "text = FAULT 2", "tape zzz", "text = FAULT 0",
            "text = FAULT 0", "tape  ", "text = FAULT 1", "count 2 = 10", "ends 0 = 9", "tape all swaps", "text = 1", "count 2 = 10");
        Run.of(c, "27: the first FAULT: ahead of no room", "9* effect 4 0 0 1 1", "tape all swap;all swaps", "text = FAULT 4", "tape all swaps;all swap", "text = FAULT 10",
            "tape all swaps;", "text = FAULT 10", "tape all swaps; swaps", "text = FAULT 11", "count 2 = 9");
    }

    private static void longest() {
        String blanks = " ".repeat(111);
        Run.of(c, "27: a TEXT of 120 bytes, blanks ahead", "tape " + blanks + "all swaps", "count 6 = 120", "text = 1");
        Run.of(c, "27: a TEXT of 120 bytes, blanks behind", "tape all swaps" + blanks, "count 6 = 120", "text = 1");
        Run.of(c, "27: a FAULT behind the last byte", "tape all swaps" + blanks.substring(1) + ";", "count 6 = 120", "text = FAULT 120");
        Run.of(c, "27: a FAULT at the last byte, which can't stand there", "tape all swaps" + blanks.substring(1) + "x", "text = FAULT 119");
        Run.of(c, "27: 120 blanks", "tape " + blanks + "         ", "count 6 = 120", "text = FAULT 120");
        Run.of(c, "27: a word of 120, a number of 120", "tape " + "a".repeat(120), "text = FAULT 0", "tape " + "1".repeat(120), "text = FAULT 0",
            "tape all is " + "0".repeat(113), "count 6 = 120", "text = 1", "tell 0 0 = 8", "reads 0 all is 0");
    }

    private static void withoutSource() {
        Run.of(c, "27: each PHRASE is an EFFECT more, without SOURCE, for good", "thing 0 0 0 9 = 0", "effect 4 0 0 1 1 = 0", "source 0 0", "lasts 0 9", "ends 0 = 0",
            "tape all is 1;all is 2", "text = 2", "source 0 -1 = -1", "lasts 0 0 = 0", "source 1 -1 = -1", "lasts 1 0 = 0");
        Run.of(c, "27: v, u else 0", "thing 0 0 1 9 = 0", "tape all is 1;all swaps", "text = 2", "tell 0 0 = 8", "tell 1 1 = 9", "now 0 2 = 9", "now 0 3 = 1");
    }

    private static void aFaultAndTheTape() {
        Run.of(c, "27: THE TAPE is empty then, by a FAULT too", "tape all", "text = FAULT 3", "count 6 = 0", "wipe = 0", "tape all swaps", "text = 1", "count 6 = 0");
    }

    private static void tellRefused() {
        Run.of(c, "28: BAD: e", "tell 0 0 = BAD", "effect 4 0 0 1 1 = 0", "tell -1 0 = BAD", "tell 1 0 = BAD", "tell MIN 0 = BAD", "tell MAX 0 = BAD", "tell 0 0 = 12");
        Run.of(c, "28: BAD: s", "effect 4 0 0 1 1 = 0", "tell 0 -1 = BAD", "tell 0 0 = 12", "tell 0 3 = 12", "tell 0 4 = BAD", "tell 0 MIN = BAD", "tell 0 MAX = BAD",
            "sheet 2 1 3 = 1", "write 2 0 7 = 1", "tell 1 2 = BAD", "item 2 0 = 7");
    }

    private static void tellLongest() {
        Run.of(c, "28: the longest and the shortest PHRASE", "effect 3 4 5 -9 -9 = 0", "tell 0 0 = 20", "reads 0 without 5 sets -9 -9", "effect 0 0 0 0 0 = 1", "tell 1 0 = 8",
            "reads 0 all is 0");
        Run.of(c, "28: one blank between TOKENS, none behind -", "effect 4 1 0 -1 0 = 0", "tell 0 1 = 17", "reads 1 owner 0 gets -1 0", "effect 4 2 5 0 -1 = 1", "tell 1 1 = 16",
            "reads 1 type 5 gets 0 -1");
        Run.of(c, "28: what of x, v, u isn't told doesn't stand there", "effect 0 0 MAX 3 -9 = 0", "tell 0 0 = 8", "reads 0 all is 3", "effect 5 5 7 -9 9 = 1", "tell 1 0 = 13",
            "reads 0 thing 7 swaps", "effect 2 3 0 5 9 = 2", "tell 2 0 = 14", "reads 0 with 0 loses 5");
        Run.of(c, "28: the last EFFECT there may be", "9* effect 0 0 0 1 0", "effect 1 0 0 2 0 = 9", "tell 9 3 = 11", "reads 3 all gains 2", "tell 10 3 = BAD");
    }

    private static void tellOverAnything() {
        Run.of(c, "28: a SHEET truly becomes a row of bytes: missing, ints, bytes, of none, of 40", "effect 5 0 0 0 0 = 0", "tell 0 0 = 9", "reads 0 all swaps", "sheet 1 1 40",
            "write 1 39 5", "tell 0 1 = 9", "item 1 8 = 115", "item 1 9 = OUTSIDE", "write 1 0 200 = 1", "item 1 0 = -56", "sheet 2 0 40", "tell 0 2 = 9", "item 2 9 = OUTSIDE",
            "sheet 3 0 0", "tell 0 3 = 9", "item 3 8 = 115", "item 3 9 = OUTSIDE", "copy 3 0 2 0 9 = 9", "sheet 0 1 9", "copy 0 0 2 0 9 = SORT");
    }
}
