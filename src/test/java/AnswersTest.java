/** "Promise 1" to "Promise 34": each boundary that a promise names beside its ranges has a test of its own. */
public final class AnswersTest {
    private static final Sentences S = new Sentences();
    private static final int LEAST = Integer.MIN_VALUE;
    private static final int MOST = Integer.MAX_VALUE;

    public static void main(String[] args) {
        newObject();
        seedAndCove();
        rows();
        copies();
        leads();
        boats();
        watch();
        laws();
        words();
        nights();
        searches();
        fractions();
        game();
        spans();
        lots();
        boatsAndHides();
        counts();
        S.eachPromiseIsTested();
        S.finish();
    }

    private static void lines(int promise, String words, String side, String... lines) {
        S.lines("Promise " + promise, words, side, lines);
    }

    private static void test(int promise, String words, String side, Runnable test) {
        S.test("Promise " + promise, words, side, test);
    }

    private static void newObject() {
        String words = "NIGHT 0, nobody.";
        lines(1, words, "every count is 0", Sentences.both(Sentences.each(7, "count # = 0"), "count 8 = 15",
            "count 9 = 1"));
        lines(1, words, "no refusal was told", "count 11 = 0", "count 12 = 0", "count 13 = 0", "count 14 = 0",
            "count 15 = 0", "count 16 = 0", "count 17 = 0");
        lines(1, words, "no BOAT, HIDE or LOT", "boatOf 0 0 = -1", "hideOf 0 0 = -1", "lotOf 0 0 = -1", "search 0 = -1",
            "load 0 0 = -1");
        lines(1, words, "no COINS", Sentences.each(7, "coins # = 0"));
        lines(1, words, "COVES without WATCHERS, SHARES, bribes or TABLES", Sentences.each(5, "watched # = 0",
            "stand # 0 = 0", "share # 0 = 0", "bribe # false = 0", "lead # -1 = -1"));
        lines(1, words, "no order for the watch, no PRICE", "draws 0 = 0", "price 0 = 0", "best 100 = 0");
        lines(1, words, "INFORMERS without a WORD", Sentences.each(5, "weight # 0 = 1", "weight # 1 = 2",
            "belief # 1 0 = 0", "belief # 1 1 = 1"));
        lines(1, words, "SEASONS of which nothing is told", Sentences.each(33, "landed # 0 = 0", "landed # 1 = 0",
            "landed # 2 = 0", "landed # 3 = 0"));
        test(1, words, "two objects know nothing of each other", () -> {
            Run first = S.run().lines("seed 5 = 1", "boat 0 1 0 0 = 0", "stand 0 3 = 0", "row 0 3 = 3", "nights 3 = 0",
                "price -1 = -4");
            S.run().lines("seed 6 = 1", "count 0 = 0", "count 1 = 0", "watched 0 = 0", "lose 0 = 0", "count 14 = 0");
            first.lines("seed 1 = 5", "count 0 = 3", "count 1 = 1", "watched 0 = 3", "lose 0 = 1", "count 14 = 1");
        });
    }

    private static void seedAndCove() {
        String any = "SEED: what it was (any int, nothing is refused).";
        lines(2, any, "1 at first, and both ends of an int", "seed " + LEAST + " = 1", "seed " + MOST + " = " + LEAST,
            "seed -1 = " + MOST, "seed 0 = -1", "seed -7 = 0", "seed -4 = -7", "seed 1 = -4");
        lines(2, any, "none is counted", Sentences.both(new String[] {"seed " + LEAST, "seed " + MOST, "seed -1",
            "seed -6"}, "count 11 = 0", "count 12 = 0", "count 13 = 0", "count 14 = 0", "count 15 = 0", "count 16 = 0",
            "count 17 = 0"));
        lines(2, any, "what the draws have made of it", "share 0 1", "draws 1", "nights 1", "seed 1 = 1103527590");
        String cove = "DEPTH and WORTH of a COVE: 1.";
        lines(3, cove, "both ends of both", "cove 0 0 1 = 1", "cove 0 9 99 = 1", "cove 5 0 99 = 1", "cove 5 9 1 = 1",
            "value 0 1 0 = 99");
        lines(3, cove, "the same once more is 1 too", "cove 2 3 10 = 1", "cove 2 3 10 = 1");
    }

    private static void rows() {
        String row = "TABLE t becomes a row of n numbers 0: n.";
        lines(4, row, "0 and 30", "row 0 0 = 0", "put 0 0 1 = -7", "row 0 30 = 30", "put 0 29 1 = 0",
            "put 0 30 1 = -7");
        lines(4, row, "a row over one with numbers: all are 0",
            Sentences.both(Sentences.both(new String[] {"row 3 30 = 30"}, Sentences.each(29, "put 3 # 20 = 0")),
            Sentences.both(new String[] {"row 3 30 = 30"}, Sentences.each(29, "put 3 # 1 = 0"))));
        lines(4, row, "a shorter row, then a longer one: all are 0", "row 1 3", "put 1 0 7", "put 1 2 9", "row 1 2 = 2",
            "put 1 0 1 = 0", "put 1 2 1 = -7", "row 1 3 = 3", "put 1 2 1 = 0", "put 1 0 1 = 0");
        lines(4, row, "a row that was lost", "row 1 2", "put 1 1 9", "lose 1 = 1", "row 1 2 = 2", "put 1 1 0 = 0");
        lines(4, row, "the other TABLES stay", "row 0 1", "row 1 1", "put 0 0 5", "row 1 2 = 2", "put 0 0 5 = 5",
            "row 2 2", "put 0 0 5 = 5");
        String lose = "TABLE t is MISSING: 1; 0 if it was.";
        for (int t = 0; t < 4; t++) {
            lines(5, lose, "TABLE " + t, "lose " + t + " = 0", "row " + t + " 2 = 2", "lose " + t + " = 1", "lose " + t
                + " = 0", "put " + t + " 0 0 = -5", "row " + t + " 0 = 0", "lose " + t + " = 1", "lose " + t + " = 0",
                "count 11 = 0");
        }
        lines(5, lose, "the other TABLES stay", "row 0 1", "row 1 1", "put 1 0 4", "lose 0 = 1", "put 1 0 0 = 4");
        String put = "The number at a place: what it was.";
        lines(6, put, "the first and the last place", "row 2 30", "put 2 0 1 = 0", "put 2 29 20 = 0", "put 2 0 0 = 1",
            "put 2 29 0 = 20", "put 2 28 0 = 0", "put 2 1 0 = 0");
        lines(6, put, "of a row of one", "row 2 1", "put 2 0 20 = 0", "put 2 0 20 = 20", "put 2 1 20 = -7",
            "put 2 -1 20 = -7");
        lines(6, put, "of an empty row there is no place", "row 2 0", "put 2 0 0 = -7", "put 2 -1 0 = -7",
            "put 2 29 0 = -7", "count 17 = 3");
    }

    /** TABLE 0 holds 1 to 5, TABLE 1 four times 9, TABLE 2 nothing. */
    private static final String[] ROWS = {"row 0 5", "put 0 0 1", "put 0 1 2", "put 0 2 3", "put 0 3 4", "put 0 4 5",
        "row 1 4", "put 1 0 9", "put 1 1 9", "put 1 2 9", "put 1 3 9", "row 2 0"};

    private static void copies() {
        String were = "(as they all were)";
        lines(7, were, "in one TABLE, one place on", Sentences.both(ROWS, "copy 0 0 0 1 4 = 4", "put 0 0 0 = 1",
            "put 0 1 0 = 1", "put 0 2 0 = 2", "put 0 3 0 = 3", "put 0 4 0 = 4"));
        lines(7, were, "in one TABLE, one place back", Sentences.both(ROWS, "copy 0 1 0 0 4 = 4", "put 0 0 0 = 2",
            "put 0 1 0 = 3", "put 0 2 0 = 4", "put 0 3 0 = 5", "put 0 4 0 = 5"));
        lines(7, were, "in one TABLE, two places on", Sentences.both(ROWS, "copy 0 0 0 2 3 = 3", "put 0 2 0 = 1",
            "put 0 3 0 = 2", "put 0 4 0 = 3", "put 0 0 0 = 1", "put 0 1 0 = 2"));
        lines(7, were, "in one TABLE, onto itself", Sentences.both(ROWS, "copy 0 0 0 0 5 = 5", "put 0 0 0 = 1",
            "put 0 4 0 = 5"));
        String words = "n numbers of TABLE t, from place i on, come to TABLE u, from place j on (as they all were): n.";
        lines(7, words, "as many as u has", Sentences.both(ROWS, "copy 0 1 1 0 4 = 4", "put 1 0 0 = 2", "put 1 3 0 = 5",
            "put 0 1 0 = 2"));
        lines(7, words, "one to the last place", Sentences.both(ROWS, "copy 0 4 1 3 1 = 1", "put 1 3 0 = 5",
            "put 1 2 0 = 9"));
        lines(7, words, "one from the first place to the first", Sentences.both(ROWS, "copy 0 0 1 0 1 = 1",
            "put 1 0 0 = 1", "put 1 1 0 = 9"));
        test(7, words, "a row of 30 whole", () -> {
            Run run = S.run().lines("row 0 30", "row 3 30").lines(Sentences.each(20, "put 0 # # = 0"));
            run.lines("copy 0 0 3 0 30 = 30").lines(Sentences.each(20, "put 3 # 0 = #")).lines("put 3 29 0 = 0",
                "copy 0 0 3 0 31 = -7");
        });
        String beyond = "-7 (n below 0, too; with n 0, too, if i or j is above how many there are)";
        lines(7, beyond, "n 0 at the ends of both", Sentences.both(ROWS, "copy 0 5 1 4 0 = 0", "copy 0 0 1 0 0 = 0",
            "put 1 0 0 = 9", "put 1 3 0 = 9"));
        lines(7, beyond, "n 0, i above how many there are", Sentences.both(ROWS, "copy 0 6 1 0 0 = -7", "copy 0 " + MOST
            + " 1 0 0 = -7", "count 17 = 2"));
        lines(7, beyond, "n 0, j above how many there are", Sentences.both(ROWS, "copy 0 0 1 5 0 = -7", "copy 0 0 1 "
            + MOST + " 0 = -7", "count 17 = 2"));
        lines(7, beyond, "n 0, i or j below 0", Sentences.both(ROWS, "copy 0 -1 1 0 0 = -7", "copy 0 0 1 -1 0 = -7",
            "copy 0 " + LEAST + " 1 0 0 = -7", "count 17 = 3"));
        lines(7, beyond, "n 0 of an empty row", Sentences.both(ROWS, "copy 2 0 2 0 0 = 0", "copy 2 0 1 4 0 = 0",
            "copy 2 1 1 0 0 = -7", "copy 0 0 2 1 0 = -7", "copy 0 0 2 0 1 = -7", "copy 2 0 0 0 1 = -7"));
        lines(7, beyond, "n below 0", Sentences.both(ROWS, "copy 0 0 1 0 -1 = -7", "copy 0 4 1 4 -1 = -7",
            "copy 0 0 1 0 " + LEAST + " = -7", "count 17 = 3"));
        lines(7, beyond, "one more than t has from i on", Sentences.both(ROWS, "copy 0 2 1 0 3 = 3",
            "copy 0 2 1 0 4 = -7", "copy 0 3 1 0 3 = -7"));
        lines(7, beyond, "one more than u has from j on", Sentences.both(ROWS, "copy 0 0 1 2 2 = 2",
            "copy 0 0 1 2 3 = -7", "copy 0 0 1 3 2 = -7"));
        lines(7, beyond, "sums that go round an int", Sentences.both(ROWS, "copy 0 1 1 0 " + MOST + " = -7", "copy 0 "
            + MOST + " 1 0 1 = -7", "copy 0 0 1 " + MOST + " 1 = -7", "copy 0 " + MOST + " 1 " + MOST + " " + MOST
            + " = -7", "copy 0 " + LEAST + " 1 0 " + LEAST + " = -7", "count 17 = 5"));
        lines(7, "-5 (t, u)", "t alone, u alone, both", Sentences.both(ROWS, "copy 3 0 0 0 0 = -5",
            "copy 0 0 3 0 0 = -5", "copy 3 0 3 0 0 = -5", "count 15 = 3"));
    }

    private static void leads() {
        String words = "A COVE is led by a TABLE (-1: by none): by which it was (-1).";
        for (int c = 0; c < 6; c++) {
            lines(8, words, "COVE " + c, "lead " + c + " 0 = -1", "lead " + c + " 3 = 0", "lead " + c + " 3 = 3",
                "lead " + c + " -1 = 3", "lead " + c + " -1 = -1", "count 11 = 0");
        }
        lines(8, words, "a TABLE that is MISSING leads too", "lead 0 2 = -1", "lead 0 -1 = 2", "count 15 = 0");
        String told = "Refused as told: -1.";
        lines(8, told, "no such COVE", "lead -1 0 = 2000000001", "lead 6 -1 = 2000000001", "lead " + LEAST
            + " 0 = 2000000001", "count 11 = 3");
        lines(8, told, "no such TABLE", "lead 0 -2 = 2000000001", "lead 0 4 = 2000000001", "lead 0 " + LEAST
            + " = 2000000001", "lead 0 " + MOST + " = 2000000001", "lead 0 -1 = -1", "count 11 = 4");
        lines(8, told, "neither: counted once", "lead 6 4 = 2000000001", "lead -1 -2 = 2000000001", "count 11 = 2");
        String tide = "TIDE at a COVE on a NIGHT (0 .. 1000).";
        lines(9, tide, "0 and 1000 are taken, -1 and 1001 are not", "tide 2 0 = 10", "tide 2 1000 = 2",
            "tide 2 -1 = -4", "tide 2 1001 = -6");
        lines(9, tide, "NIGHTS that are gone and that come", "nights 500", "tide 0 1 = 7", "tide 0 500 = 4",
            "tide 0 1000 = 8");
    }

    private static void boats() {
        lines(10, "-4; -6 (8, too).", "the 8th is taken, one more is refused, whatever it is",
            Sentences.both(Sentences.each(7, "boat 0 1 0 0 = #"), "boat 0 1 0 0 = -6", "boat 20 60 99 15 = -6",
            "boat 0 0 0 0 = -4", "boat 21 60 99 15 = -6", "count 16 = 3", "count 14 = 1", "count 1 = 8"));
        String load = "CASKS come aboard: how many it has.";
        lines(11, load, "none, some, and just the HOLD", "boat 0 60 0 0", "load 0 0 = 0", "load 0 1 = 1",
            "load 0 0 = 1", "load 0 58 = 59", "load 0 1 = 60", "load 0 0 = 60", "load 0 1 = -6");
        lines(11, "-1; -4 below 0; -6 above its HOLD.", "with what it has aboard", "boat 0 5 0 0", "load 0 6 = -6",
            "load 0 5 = 5", "load 0 1 = -6", "load 0 -1 = -4", "load 0 " + MOST + " = -6", "load 0 " + LEAST + " = -4",
            "boatOf 0 0 = 5");
        lines(11, load, "of each of 8 BOATS by itself", Sentences.both(Sentences.each(7, "boat 0 9 0 0 = #",
            "load # # = #"), Sentences.each(7, "boatOf # 0 = #")));
        lines(11, load, "again after its CASKS are hidden", "boat 0 5 0 15", "hide 0 9 1", "load 0 5 = 5",
            "nights 1 = 1", "load 0 5 = 5");
        lines(12, "-1 the COVE; -4; -6 (12, too).", "the 12th is taken, one more is refused",
            Sentences.both(Sentences.each(11, "hide 5 1 1 = #"), "hide 5 1 1 = -6", "hide 5 0 1 = -4",
            "hide 5 1 0 = -4", "hide 6 0 0 = -1", "hide 5 201 21 = -6", "count 16 = 2", "count 14 = 2", "count 11 = 1",
            "count 2 = 12"));
    }

    private static void watch() {
        lines(13, "STANDING WATCHERS at a COVE: how many they were.", "0 to 9 and back", "stand 5 9 = 0",
            "stand 5 9 = 9", "stand 5 0 = 9", "stand 5 0 = 0", "stand 4 1 = 0");
        lines(14, "A WATCHER at a COVE is BRIBED, or not: 1; 0 if it was so.", "each change and what was so",
            Sentences.each(5, "bribe # false = 0", "bribe # true = 1", "bribe # true = 0", "bribe # false = 1",
            "bribe # false = 0", "bribe # true = 1", "count 11 = 0"));
        lines(15, "SHARE of a COVE: what it was.", "0 to 99 and back", "share 0 99 = 0", "share 0 99 = 99",
            "share 5 1 = 0", "share 0 0 = 99", "share 0 0 = 0", "share 5 0 = 1");
        lines(16, "N: what it was.", "0 to 9 and back", "draws 9 = 0", "draws 9 = 9", "draws 0 = 9", "draws 0 = 0");
        lines(17, "PRICE: what it was.", "0 to 999 and back", "price 999 = 0", "price 999 = 999", "price 0 = 999",
            "price 0 = 0");
    }

    private static void laws() {
        String words = "-4 below 0, a NIGHT ahead of now; -6 parts above 100 together, NIGHT above 1000, 20.";
        lines(18, words, "NIGHT 0 on a new object", "law 0 0 0 = 0", "law 0 0 -1 = -4", "count 7 = 1");
        lines(18, words, "on NIGHT 1000", "nights 1000", "law 0 0 1000 = 0", "law 0 0 999 = -4", "law 0 0 1001 = -6");
        lines(18, words, "the 20th is taken, one more is refused", Sentences.both(Sentences.each(19, "law # 1 7 = #"),
            "law 0 0 7 = -6", "law -1 0 7 = -4", "law 0 -1 7 = -4", "law 0 0 -1 = -4", "law 101 101 1001 = -6",
            "count 7 = 20", "count 16 = 2", "count 14 = 3"));
        lines(18, words, "100 and 1 above on each side", "law 100 0 0 = 0", "law 0 100 0 = 1", "law 99 1 0 = 2",
            "law 1 99 0 = 3", "law 50 50 0 = 4", "law 100 1 0 = -6", "law 1 100 0 = -6", "law 51 50 0 = -6",
            "law 50 51 0 = -6", "law 101 0 0 = -6", "law 0 101 0 = -6", "count 16 = 6");
        lines(18, words, "parts whose sum goes round an int", "law " + MOST + " 1 0 = -6", "law 1 " + MOST + " 0 = -6",
            "law " + MOST + " " + MOST + " 0 = -6", "law " + LEAST + " " + LEAST + " 0 = -4", "law " + MOST + " "
            + LEAST + " 0 = -4", "count 7 = 0");
    }

    private static void words() {
        String words = "-1; -4 the NIGHT is not behind now; -6 above 1000, 60; -3 it was told by that one.";
        lines(19, words, "now, the next NIGHT, 1000 and 1001", "nights 7", "word 0 7 0 = -4", "word 0 8 0 = 0",
            "word 0 1000 0 = 1", "word 0 1001 0 = -6", "word 0 0 0 = -4", "word 0 -1 0 = -4");
        lines(19, words, "told by that one, by another, for another", "word 0 8 0 = 0", "word 0 8 0 = -3",
            "word 5 8 0 = 1", "word 0 9 0 = 2", "word 0 8 5 = 3", "count 13 = 1", "count 4 = 4");
        lines(19, words, "no INFORMER and no COVE: counted once", "word 6 8 6 = -1", "word -1 8 -1 = -1",
            "count 11 = 2");
        test(19, words, "the 60th is taken, one more is refused", () -> {
            Run run = S.run();
            for (int w = 0; w < 60; w++) {
                run.due("word 0 " + (w + 1) + " 0", w);
            }
            run.lines("word 1 61 0 = -6", "word 0 1 0 = -6", "word 0 0 0 = -4", "word 6 1 0 = -1", "count 4 = 60",
                "count 13 = 0");
        });
    }

    private static void nights() {
        String words = "n NIGHTS pass: how many LOTS came.";
        lines(20, words, "none came", "nights 1 = 0", "nights 5 = 0", "count 0 = 6");
        lines(20, words, "one of one NIGHT, two of several", "hide 0 60 1", "boat 0 9 0 15", "boat 0 9 0 10",
            "boat 0 9 0 15", "load 0 1", "nights 1 = 1", "load 1 1", "load 2 1", "nights 9 = 2", "nights 9 = 0",
            "lotOf 1 2 = 2", "lotOf 2 2 = 5");
        lines(20, words, "all eight of one NIGHT", Sentences.both(Sentences.each(7, "boat 0 9 0 15 = #",
            "load # 1 = 1"), "stand 0 1", "nights 1 = 8"));
        String all = "-4 below 1; -6 above 1000 in all.";
        lines(20, all, "0 and 1", "nights 0 = -4", "nights -1 = -4", "nights " + LEAST + " = -4", "count 0 = 0",
            "nights 1 = 0");
        lines(20, all, "1000 at once, 1001 not", "nights 1001 = -6", "nights 1000 = 0", "count 0 = 1000",
            "nights 1 = -6", "nights 0 = -4");
        lines(20, all, "1000 in two parts, 1001 not", "nights 600 = 0", "nights 401 = -6", "nights 400 = 0",
            "count 0 = 1000");
        lines(20, all, "a sum that goes round an int", "nights 1", "nights " + MOST + " = -6", "nights 1", "nights "
            + (MOST - 1) + " = -6", "count 0 = 2");
        lines(20, all, "on NIGHT 999", "nights 999", "nights 2 = -6", "nights 1 = 0", "nights 1 = -6", "count 16 = 2");
    }

    private static void searches() {
        String words = "A SEARCH: casks that were found.";
        lines(21, words, "none in an empty HIDE", "hide 0 9 1", "search 0 = 0", "search 0 = 0");
        lines(21, words, "one LOT, two LOTS, and none once more", "hide 0 200 1", "boat 0 60 0 15", "load 0 60",
            "nights 1", "search 0 = 60", "load 0 60", "nights 1", "load 0 7", "nights 1", "search 0 = 67",
            "search 0 = 0");
        lines(21, words, "what was taken on that shore is not found", "hide 0 9 1", "stand 0 1", "boat 0 9 0 15",
            "load 0 9", "nights 1 = 1", "search 0 = 0");
        lines(21, words, "a full HIDE of 200", "hide 0 200 1", "boat 0 50 0 15", "boat 0 50 0 15", "load 0 50",
            "load 1 50", "nights 1 = 2", "load 0 50", "load 1 50", "nights 1 = 2", "search 0 = 200", "hideOf 0 0 = 0");
        lines(22, "THE BEST SEARCHES: the set.", "of no HIDES, and of HIDES without a GUESS", "best 0 = 0",
            "best 100 = 0", "hide 0 1 1", "best 100 = 0");
        lines(22, "THE BEST SEARCHES: the set.", "empty again when the last GUESS is 0", "hide 0 9 5", "boat 0 9 0 15",
            "load 0 3", "word 0 1 0", "nights 1", "best 5 = 1", "search 0", "best 5 = 1", "search 0", "search 0",
            "hideOf 0 1 = 1", "best 5 = 1", "search 0", "hideOf 0 1 = 0", "best 5 = 0", "best 100 = 0");
        lines(22, "THE BEST SEARCHES: the set.", "nothing changes by it", "hide 0 9 5", "boat 0 9 0 15", "load 0 3",
            "word 0 1 0", "nights 1", "best 5 = 1", "best 4 = 0", "best 5 = 1", "hideOf 0 0 = 3", "hideOf 0 1 = 10",
            "lotOf 0 4 = 0");
    }

    private static void fractions() {
        String belief = "BELIEF: part 0 above, 1 below the line, without a common divisor (0 is 0 by 1).";
        lines(23, belief, "0 is 0 by 1", "belief 0 0 0 = 0", "belief 0 0 1 = 1", "belief 5 1000 0 = 0",
            "belief 5 1000 1 = 1");
        lines(23, belief, "one WORD", "word 0 1 0", "belief 0 1 0 = 1", "belief 0 1 1 = 2");
        // INFORMERS 0 and 1 are WRONG twice, 2 has nothing PROVED: 1 less (3/4 times 3/4 times 1/2).
        lines(23, belief, "of three INFORMERS", "word 0 1 0", "word 0 1 1", "word 1 1 0",
            "word 1 1 1", "word 0 9 0", "word 1 9 0", "word 2 9 0", "nights 1", "belief 0 9 0 = 23",
            "belief 0 9 1 = 32");
        // INFORMER 0 is RIGHT twice, 1 is WRONG once: 1 less (1/4 times 2/3).
        lines(23, belief, "10 by 12 is told as 5 by 6", "hide 0 9 1", "boat 0 9 0 15", "load 0 1", "word 0 1 0",
            "word 1 1 1", "nights 1", "load 0 1", "word 0 2 0", "word 0 9 5", "word 1 9 5", "nights 1",
            "weight 0 0 = 3", "weight 0 1 = 4", "belief 5 9 0 = 5", "belief 5 9 1 = 6");
        lines(23, "-1; -4; -6 NIGHT 0 .. 1000; -2 another part.", "no part -1, 2 or at the ends of an int",
            "belief 0 1 -1 = -2", "belief 0 1 2 = -2", "belief 0 1 " + LEAST + " = -2", "belief 0 1 " + MOST + " = -2",
            "count 12 = 4");
        String weight = "WEIGHT of an INFORMER likewise.";
        lines(24, weight, "none PROVED: 1 by 2", Sentences.each(5, "weight # 0 = 1", "weight # 1 = 2"));
        lines(24, weight, "2 by 4 is told as 1 by 2", "hide 0 9 1", "boat 0 9 0 15", "load 0 1", "word 4 1 0",
            "word 4 1 1", "nights 1", "count 5 = 1", "count 6 = 1", "weight 4 0 = 1", "weight 4 1 = 2");
        lines(24, weight, "1 by 62 after 60 WRONG", Sentences.both(Sentences.each(5, "word 3 1 #", "word 3 2 #",
            "word 3 3 #", "word 3 4 #", "word 3 5 #", "word 3 6 #", "word 3 7 #", "word 3 8 #", "word 3 9 #",
            "word 3 10 #"), "count 4 = 60", "nights 10", "weight 3 0 = 1", "weight 3 1 = 62"));
        lines(24, "-1; -2.", "no INFORMER 6, no part 2, neither", "weight 6 0 = -1", "weight 0 2 = -2",
            "weight 6 2 = -1", "weight 0 -1 = -2", "count 11 = 2", "count 12 = 2");
    }

    private static void game() {
        String value = "THE GAME: VALUE: part 0 above, 1 below the line, without a common divisor, "
            + "below above 0 (0 is 0 by 1).";
        lines(25, value, "0 is 0 by 1", "value 3 10 0 = 0", "value 3 10 1 = 1");
        lines(25, value, "below 0 it is the part above the line that is", "value 6 7 0 = -7", "value 6 7 1 = 1",
            "value 5 30 0 = -70", "value 5 30 1 = 3");
        lines(25, value, "-1 and -4 are no refusals here", "value 6 1 0 = -1", "value 6 4 0 = -4", "value 6 6 0 = -6",
            "value 6 2 0 = -2", "count 11 = 0", "count 12 = 0", "count 14 = 0", "count 16 = 0");
        lines(25, value, "the greatest WORTHS and FINE", Sentences.both(Sentences.each(5, "cove # 0 99 = 1"),
            "value 0 99 0 = 99", "value 6 99 0 = -99", "value 5 99 0 = -66", "value 5 99 1 = 1", "value 1 99 0 = 66",
            "value 3 99 0 = 0", "value 3 99 1 = 1"));
        lines(25, value, "the least WORTHS and FINE", Sentences.both(Sentences.each(5, "cove # 0 1 = 1"),
            "value 0 1 0 = 1", "value 6 1 0 = -1", "value 5 1 0 = -2", "value 5 1 1 = 3", "value 3 1 0 = 0",
            "value 1 1 0 = 2", "value 1 1 1 = 3"));
        lines(25, value, "six great WORTHS that share no divisor", "cove 0 0 99", "cove 1 0 98", "cove 2 0 97",
            "cove 3 0 96", "cove 4 0 95", "cove 5 0 94", "value 5 99 0 = -9482674880349",
            "value 5 99 1 = 142770186131");
        lines(25, value, "WORTHS that rise", "cove 0 0 1", "cove 1 0 2", "cove 2 0 3", "cove 3 0 50", "cove 4 0 60",
            "cove 5 0 99", "value 2 7 0 = 286073", "value 2 7 1 = 16963", "value 0 7 0 = 99", "value 6 7 0 = -7");
        test(25, value, "WORTHS in any order", () -> {
            int[] worths = {7, 80, 33, 20, 11, 95};
            for (int turn = 0; turn < 6; turn++) {
                Run run = S.run();
                for (int c = 0; c < 6; c++) {
                    run.lines("cove " + (c + turn) % 6 + " 0 " + worths[c]);
                }
                run.lines("value 3 5 0 = 32225", "value 3 5 1 = 3891", "value 1 5 0 = 1515", "value 1 5 1 = 37",
                    "value 5 5 0 = -13145", "value 5 5 1 = 18133");
            }
        });
        lines(25, value, "after a WORTH has changed", "cove 4 0 99", "value 0 1 0 = 99", "cove 4 0 1",
            "value 0 1 0 = 10", "cove 0 0 11", "value 0 1 0 = 11", "value 6 1 0 = -1");
        String told = "Refused as 4000000000000000000 less the number: -4 (K, FINE); -6; -2.";
        lines(25, told, "each of them", "value -1 1 0 = 4000000000000000004", "value 0 0 0 = 4000000000000000004",
            "value 7 1 0 = 4000000000000000006", "value 0 100 0 = 4000000000000000006",
            "value 0 1 2 = 4000000000000000002", "value 0 1 -1 = 4000000000000000002", "count 14 = 2", "count 16 = 2",
            "count 12 = 2");
        lines(25, told, "several at once", "value 7 0 2 = 4000000000000000004", "value -1 100 2 = 4000000000000000004",
            "value 7 100 2 = 4000000000000000006", "value 0 100 2 = 4000000000000000006", "count 14 = 2",
            "count 16 = 2", "count 12 = 0");
        String chance = "CHANCE of a COVE in THE GAME, likewise";
        lines(26, chance, "0 is 0 by 1", Sentences.each(5, "chance # 0 1 0 = 0", "chance # 0 1 1 = 1"));
        lines(26, chance, "1 is 1 by 1", Sentences.each(5, "chance # 6 99 0 = 1", "chance # 6 99 1 = 1"));
        lines(26, chance, "of 40, 30 and COVES below VALUE", "cove 0 3 40", "cove 1 3 30", "chance 0 1 10 0 = 5",
            "chance 0 1 10 1 = 9", "chance 1 1 10 0 = 4", "chance 1 1 10 1 = 9", "chance 2 1 10 0 = 0",
            "chance 2 1 10 1 = 1", "chance 5 1 10 1 = 1");
        lines(26, chance, "six great WORTHS that share no divisor", "cove 0 0 99", "cove 1 0 98", "cove 2 0 97",
            "cove 3 0 96", "cove 4 0 95", "cove 5 0 94", "chance 5 5 99 0 = 118668768791",
            "chance 5 5 99 1 = 142770186131");
        lines(26, "-1; -4; -6; -2.", "several at once", "chance 6 -1 100 2 = 4000000000000000001",
            "chance 0 -1 100 2 = 4000000000000000004", "chance 0 7 0 2 = 4000000000000000004",
            "chance 0 7 1 2 = 4000000000000000006", "chance 0 6 1 2 = 4000000000000000002",
            "chance -1 6 1 0 = 4000000000000000001", "count 11 = 2", "count 14 = 2", "count 16 = 1", "count 12 = 1");
    }

    private static void spans() {
        String used = "-1; -4; -6; -3 least above most.";
        lines(27, used, "least as much as most, 1 above, and both ends", "used 0 7 7 0 = 1", "used 0 8 7 0 = -3",
            "used 0 0 0 0 = 1", "used 0 1 0 0 = -3", "used 0 100000 100000 0 = 1", "used 0 100000 99999 0 = -3",
            "used 0 0 100000 100000 = 1", "count 13 = 3");
        lines(27, used, "what was told stays if it is refused", "used 3 5 9 1 = 1", "used 3 9 5 0 = -3",
            "used 3 -1 9 0 = -4", "used 3 5 100001 0 = -6", "landed 3 0 = 4", "landed 3 1 = 8", "used 3 0 9 9 = 1",
            "landed 3 1 = 0");
        String landed = "LANDED: what 0 least, 1 most; 2 HELD, 3 casks SEIZED of its LOTS. (USED not told: 0.)";
        lines(28, landed, "not told: 0, though casks are SEIZED and HELD", "hide 0 9 1", "boat 0 9 0 15",
            "boat 0 9 0 15", "load 0 5", "nights 1 = 1", "stand 0 1", "load 1 3", "nights 1 = 1", "landed 0 0 = 0",
            "landed 0 1 = 0", "landed 0 2 = 5", "landed 0 3 = 3");
        lines(28, landed, "of the first and the last SEASON", Sentences.each(3, "landed 0 # = 0", "landed 33 # = 0"));
        lines(28, "-1; -2.", "what -1, 4, and no SEASON", "landed 0 -1 = -2", "landed 0 4 = -2", "landed 34 4 = -1",
            "landed -1 -1 = -1", "count 11 = 2", "count 12 = 2");
    }

    private static void lots() {
        String words = "Of a LOT: 0 BOAT, 1 casks, 2 NIGHT, 3 COVE, 4 where it lies (0 .. 2), 5 its HIDE "
            + "(-9 taken on the shore; found ones: where it lay).";
        lines(29, words, "in a HIDE, then found", "hide 1 9 1", "hide 0 9 1", "boat 0 9 0 15", "boat 0 9 0 15",
            "load 1 7", "nights 1 = 1", "lotOf 0 0 = 1", "lotOf 0 1 = 7", "lotOf 0 2 = 1", "lotOf 0 3 = 0",
            "lotOf 0 4 = 0", "lotOf 0 5 = 1", "search 1 = 7", "lotOf 0 0 = 1", "lotOf 0 1 = 7", "lotOf 0 2 = 1",
            "lotOf 0 3 = 0", "lotOf 0 4 = 2", "lotOf 0 5 = 1");
        lines(29, words, "taken on the shore", "hide 0 9 1", "stand 0 1", "boat 0 9 0 15", "load 0 7", "nights 1 = 1",
            "lotOf 0 0 = 0", "lotOf 0 1 = 7", "lotOf 0 3 = 0", "lotOf 0 4 = 1", "lotOf 0 5 = -9", "search 0 = 0",
            "lotOf 0 4 = 1", "lotOf 0 5 = -9", "count 12 = 0");
        lines(29, "-1; -2.", "the first that is not there, what -1 and 6", "lotOf 0 0 = -1", "stand 0 1",
            "boat 0 9 0 15", "load 0 7", "nights 1", "lotOf 0 -1 = -2", "lotOf 0 6 = -2", "lotOf 1 6 = -1",
            "lotOf -1 -1 = -1", "lotOf 1 0 = -1", "count 11 = 4", "count 12 = 2");
    }

    private static void boatsAndHides() {
        String boat = "Of a BOAT: 0 CASKS, 1 how often it got away, 2 how often it went home from a COVE without "
            + "WATCHERS, 3 + c FEAR of COVE c.";
        lines(30, boat, "all 0 at first", Sentences.both(new String[] {"boat 0 9 0 15"}, Sentences.each(8,
            "boatOf 0 # = 0")));
        lines(30, boat, "got away once, went home twice", "stand 0 1", "stand 1 1", "boat 0 9 10 15", "load 0 3",
            "nights 1 = 0", "boatOf 0 1 = 1", "boatOf 0 2 = 0", "cove 1 3 99", "nights 1 = 0", "boatOf 0 1 = 1",
            "boatOf 0 2 = 1", "nights 1 = 0", "boatOf 0 2 = 2", "boatOf 0 0 = 3");
        lines(30, boat, "went home also where the only WATCHER is bribed", "stand 0 1", "bribe 0 true",
            "boat 0 9 0 15", "load 0 3", "nights 1 = 0", "boatOf 0 1 = 0", "boatOf 0 2 = 1", "boatOf 0 3 = 0");
        lines(30, boat, "neither, if it is SEIZED, hidden, or stays", "stand 0 1", "hide 1 9 1", "boat 0 9 0 15",
            "load 0 3", "nights 1 = 1", "load 0 3", "nights 1 = 1", "nights 9 = 0", "boat 0 9 0 0", "load 1 1",
            "nights 1 = 0", "boatOf 0 1 = 0", "boatOf 0 2 = 0", "boatOf 1 1 = 0", "boatOf 1 2 = 0");
        lines(30, boat, "FEAR of COVE 0 and of COVE 5", "stand 0 1", "boat 0 9 99 15", "load 0 1", "nights 1",
            "boatOf 0 3 = 24", "stand 0 0", "stand 5 1", "cove 5 3 99", "nights 1", "boatOf 0 3 = 23",
            "boatOf 0 8 = 24");
        lines(30, "-1; -2.", "the first that is not there, what -1 and 9", "boatOf 0 0 = -1", "boat 0 1 0 0",
            "boatOf 0 -1 = -2", "boatOf 0 9 = -2", "boatOf 1 9 = -1", "boatOf 0 " + MOST + " = -2", "boatOf 0 " + LEAST
            + " = -2", "count 11 = 2", "count 12 = 4");
        String hide = "Of a HIDE: 0 casks that lie there, 1 GUESS, 2 COVE.";
        lines(31, hide, "a new one at COVE 0, and at COVE 5", "hide 0 9 1", "hide 5 9 1", "hideOf 0 0 = 0",
            "hideOf 0 1 = 0", "hideOf 0 2 = 0", "hideOf 1 2 = 5");
        lines(31, hide, "filled and found", "hide 0 9 1", "boat 0 9 0 15", "load 0 9", "word 0 1 0", "nights 1",
            "hideOf 0 0 = 9", "hideOf 0 1 = 10", "search 0", "hideOf 0 0 = 0", "hideOf 0 1 = 5", "hideOf 0 2 = 0");
        lines(31, "-1; -2.", "the first that is not there, what -1 and 3", "hideOf 0 0 = -1", "hide 0 1 1",
            "hideOf 0 -1 = -2", "hideOf 0 3 = -2", "hideOf 1 3 = -1", "count 11 = 2", "count 12 = 2");
        String watched = "WATCHERS that were at a COVE in the latest NIGHT (0 ahead of the first).";
        lines(32, watched, "ahead of the first, though some stand", "stand 3 9", "share 3 1", "draws 9",
            "watched 3 = 0", "nights 1", "watched 3 = 18");
        lines(32, watched, "as they were then, not as they stand now", "stand 3 2", "nights 1", "stand 3 5",
            "watched 3 = 2", "bribe 3 true", "watched 3 = 2", "nights 1", "watched 3 = 5", "stand 3 0", "nights 2",
            "watched 3 = 0");
    }

    private static void counts() {
        String coins = "COINS: what 0 the CREW's, 1 the CROWN's, 2 + i INFORMER i's.";
        for (int i = 0; i < 6; i++) {
            lines(33, coins, "INFORMER " + i, Sentences.both(new String[] {"price 100", "law 20 30 0", "stand 0 1",
                "boat 0 9 0 15", "load 0 1", "word " + i + " 1 0", "nights 1 = 1", "coins 0 = 20", "coins 1 = 50",
                "coins " + (2 + i) + " = 30", "coins " + (2 + (i + 1) % 6) + " = 0"}));
        }
        lines(33, "-2.", "-1, 8 and the ends of an int", "coins -1 = -2", "coins 8 = -2", "coins " + LEAST + " = -2",
            "coins " + MOST + " = -2", "coins 7 = 0", "coins 0 = 0", "count 12 = 4");
        String other = "-9 for another what.";
        lines(34, other, "-1, 10, 18 and the ends of an int, none of them a refusal", "count -1 = -9", "count 10 = -9",
            "count 18 = -9", "count " + LEAST + " = -9", "count " + MOST + " = -9", "count 11 = 0", "count 12 = 0",
            "count 14 = 0", "count 16 = 0");
        String what = "0 NIGHT, 1 BOATS, 2 HIDES, 3 LOTS, 4 WORDS, 5 RIGHT ones, 6 WRONG ones, 7 LAWS, 8 LIGHT of "
            + "this NIGHT, 9 SEED's lowest 16 bits, 11 .. 17 REFUSALS -1 .. -7.";
        lines(34, what, "one more of each", "nights 1", "count 0 = 1", "boat 0 9 0 15", "count 1 = 1", "hide 0 9 1",
            "count 2 = 1", "load 0 1", "word 0 2 0", "word 0 2 1", "count 4 = 2", "nights 1", "count 3 = 1",
            "count 5 = 1", "count 6 = 1", "law 0 0 2", "count 7 = 1", "count 8 = 13");
        lines(34, what, "SEED's lowest 16 bits, of both ends of an int", "count 9 = 1", "seed 65535", "count 9 = 65535",
            "seed 65536", "count 9 = 0", "seed -1", "count 9 = 65535", "seed " + LEAST, "count 9 = 0", "seed " + MOST,
            "count 9 = 65535", "seed -32768", "count 9 = 32768");
        lines(34, what, "one REFUSAL of each number", "watched 6 = -1", "coins 8 = -2", "used 0 1 0 0 = -3",
            "price -1 = -4", "put 0 0 0 = -5", "price 1000 = -6", "row 0 0", "put 0 0 0 = -7", "count 11 = 1",
            "count 12 = 1", "count 13 = 1", "count 14 = 1", "count 15 = 1", "count 16 = 1", "count 17 = 1");
        lines(34, what, "REFUSALS that are told otherwise count too", "lead 6 0 = 2000000001",
            "value -1 1 0 = 4000000000000000004", "chance 0 7 1 0 = 4000000000000000006",
            "chance 0 1 1 2 = 4000000000000000002", "count 11 = 1", "count 14 = 1", "count 16 = 1", "count 12 = 1");
        lines(34, what, "LIGHT on NIGHT 0, 15, 30 and 1000", "count 8 = 15", "nights 15", "count 8 = 0", "nights 15",
            "count 8 = 15", "nights 970", "count 8 = 5");
    }
}
