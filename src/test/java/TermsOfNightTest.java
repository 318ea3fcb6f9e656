/**
 * "Terms", of the coast and what passes in a NIGHT: each sentence that names a boundary has tests of its own,
 * named by its words.
 */
public final class TermsOfNightTest {
    private static final Sentences S = new Sentences();
    /** All COVES are led by TABLE 0, whose one number is 0: a BOAT of DRAUGHT 4 finds none OPEN. */
    private static final String[] ALL_SHUT = {"row 0 1 = 1", "lead 0 0 = -1", "lead 1 0 = -1", "lead 2 0 = -1",
        "lead 3 0 = -1", "lead 4 0 = -1", "lead 5 0 = -1"};
    /** But COVE 2, where TIDE is 20. */
    private static final String[] ALL_SHUT_BUT_2 = {"row 1 1 = 1", "put 1 0 20 = 0", "lead 2 1 = 0"};
    private static final String[] ALL_GUARDED = {"stand 0 1", "stand 1 1", "stand 2 1", "stand 3 1", "stand 4 1",
        "stand 5 1"};

    public static void main(String[] args) {
        nights();
        coves();
        tides();
        tables();
        draws();
        boats();
        open();
        hidesAndLots();
        watchers();
        drawn();
        choice();
        seized();
        hidden();
        fears();
        besides();
        S.finish();
    }

    private static void test(String words, String side, Runnable test) {
        S.test("Terms", words, side, test);
    }

    private static void lines(String words, String side, String... lines) {
        S.lines("Terms", words, side, lines);
    }

    private static void nights() {
        S.test("What it is", "NIGHTS go on from 0 (1000 at most).", "the first is 0, 1000 is passed, 1001 is refused",
            () -> S.run().lines("count 0 = 0", "nights 1", "count 0 = 1", "nights 998", "count 0 = 999", "nights 1",
            "count 0 = 1000", "nights 1 = -6", "count 0 = 1000"));
        S.test("What it is", "An object is used for at most 512 calls after it has been made",
            "the 512th is answered as promised", () -> {
                Run run = S.run();
                for (int call = 1; call < Run.CALLS; call++) {
                    run.due("nights 1", 0);
                }
                run.due("count 0", Run.CALLS - 1);
            });
        String light = "LIGHT of a NIGHT n: with k being n modulo 30, the amount of 15 less k (so 15 at 0, 0 at 15).";
        int[][] lights = {{0, 15}, {1, 14}, {14, 1}, {15, 0}, {16, 1}, {29, 14}, {30, 15}, {31, 14}, {45, 0}, {990, 15},
            {999, 6}, {1000, 5}};
        for (int[] row : lights) {
            test(light, "NIGHT " + row[0], () -> after(row[0]).due("count 8", row[1]));
        }
    }

    private static Run after(int nights) {
        Run run = S.run();
        if (nights > 0) {
            run.ask("nights " + nights);
        }
        return run;
    }

    private static void coves() {
        String words = "COVES 0 to 5 each have a DEPTH (0 .. 9; 3 at first) and a WORTH (1 .. 99; 10 at first).";
        lines(words, "COVE 0 and COVE 5 are there, -1 and 6 are not", "cove 0 0 1 = 1", "cove 5 0 1 = 1",
            "cove -1 0 1 = -1", "cove 6 0 1 = -1", "count 11 = 2");
        for (int c = 0; c < 6; c++) {
            int cove = c;
            test(words, "DEPTH of COVE " + c + " is 3 at first", () -> depthIs(S.run(), cove, 3));
            test(words, "DEPTH 0 of COVE " + c, () -> depthIs(S.run().lines("cove " + cove + " 0 10 = 1"), cove, 0));
            test(words, "DEPTH 9 of COVE " + c, () -> depthIs(S.run().lines("cove " + cove + " 9 10 = 1"), cove, 9));
            test(words, "WORTH of COVE " + c + " is 10 at first", () -> worthIs(S.run(), cove, 10));
            test(words, "WORTH 1 of COVE " + c, () -> worthIs(S.run().lines("cove " + cove + " 3 1 = 1"), cove, 1));
            test(words, "WORTH 99 of COVE " + c, () -> worthIs(S.run().lines("cove " + cove + " 3 99 = 1"), cove, 99));
        }
    }

    /** With TIDE 11 there and 0 elsewhere, one BOAT just gets in and one that lies deeper does not. */
    private static void depthIs(Run run, int c, int depth) {
        run.lines(ALL_SHUT).lines("row 1 1", "put 1 0 11", "lead " + c + " 1");
        run.lines("boat " + (11 + depth) + " 1 0 15", "boat " + Math.min(20, 12 + depth) + " 1 0 15", "load 0 1");
        run.ask("load 1 " + (depth < 9 ? 1 : 0));
        run.lines("nights 1 = 0", "boatOf 0 2 = 1", "boatOf 1 2 = 0");
    }

    /** With 6 watchers VALUE is -FINE and each CHANCE 1, so 5 are taken, which leave every COVE watched. */
    private static void worthIs(Run run, int c, int worth) {
        for (int other = 0; other < 6; other++) {
            if (other != c) {
                run.lines("cove " + other + " 3 " + worth);
            }
        }
        // All six of one WORTH: VALUE with FINE 6 is that less 5 by 6 of WORTH and FINE.
        long above = 6L * worth - 5 * (worth + 6);
        long divisor = divisor(Math.abs(above), 6);
        run.due("value 5 6 0", above / divisor).due("value 5 6 1", 6 / divisor).due("value 0 6 0", worth);
    }

    private static long divisor(long a, long b) {
        return b == 0 ? a : divisor(b, a % b);
    }

    private static void tides() {
        String words = "TIDE at COVE c: with k being (7 n and 5 c) modulo 24: k if it is 12 or less, else 24 less k.";
        // COVE, NIGHT and TIDE.
        int[][] rows = {{0, 0, 0}, {0, 1, 7}, {0, 5, 11}, {1, 1, 12}, {0, 12, 12}, {0, 19, 11}, {0, 7, 1}, {0, 17, 1},
            {0, 24, 0}, {5, 0, 1}, {5, 5, 12}, {4, 4, 0}, {0, 1000, 8}, {5, 1000, 7}, {5, 17, 0}, {5, 999, 10},
            {3, 3, 12}};
        for (int[] row : rows) {
            lines(words, "COVE " + row[0] + " on NIGHT " + row[1], "tide " + row[0] + " " + row[1] + " = " + row[2]);
        }
    }

    private static void tables() {
        String words = "TABLES 0 to 3 are MISSING (at first) or rows of 0 .. 30 numbers (0 .. 20).";
        for (int t = 0; t < 4; t++) {
            lines(words, "TABLE " + t + " is MISSING at first", "put " + t + " 0 0 = -5",
                "copy " + t + " 0 " + t + " 0 0 = -5", "lose " + t + " = 0");
        }
        lines(words, "there is no TABLE -1 and no TABLE 4", "row -1 0 = -1", "row 4 0 = -1", "row 0 0 = 0",
            "row 3 0 = 0");
        lines(words, "a row of 0 numbers is not MISSING", "row 0 0 = 0", "put 0 0 0 = -7", "copy 0 0 0 0 0 = 0",
            "lose 0 = 1");
        lines(words, "a row of 30 numbers has places 0 to 29", "row 2 30 = 30", "put 2 29 20 = 0", "put 2 0 20 = 0",
            "put 2 30 0 = -7", "put 2 -1 0 = -7", "put 2 29 0 = 20", "row 2 31 = -6", "row 2 -1 = -4",
            "put 2 0 0 = 20");
        lines(words, "numbers 0 and 20 are put, -1 and 21 are not", "row 0 1", "put 0 0 20 = 0", "put 0 0 21 = -6",
            "put 0 0 -1 = -4", "put 0 0 0 = 20", "put 0 0 1 = 0");
        String led = "its TIDE of a NIGHT is then the number at place n modulo the row's length";
        lines(led, "before, at and after the row's length", "row 1 3", "put 1 0 4", "put 1 1 5", "put 1 2 6",
            "lead 3 1 = -1", "tide 3 0 = 4", "tide 3 2 = 6", "tide 3 3 = 4", "tide 3 5 = 6", "tide 3 6 = 4",
            "tide 3 999 = 4", "tide 3 1000 = 5");
        lines(led, "a row of one number", "row 1 1", "put 1 0 20", "lead 0 1", "tide 0 0 = 20", "tide 0 1 = 20",
            "tide 0 1000 = 20");
        lines(led, "a row of 30 numbers", "row 1 30", "put 1 29 20", "put 1 0 1", "put 1 10 9", "lead 5 1",
            "tide 5 29 = 20", "tide 5 30 = 1", "tide 5 28 = 0", "tide 5 1000 = 9");
        lines(led, "the other COVES as told", "row 1 1", "put 1 0 20", "lead 0 1", "tide 1 0 = 5", "tide 5 0 = 1");
        String told = "if it is MISSING or empty, as told.";
        lines(told, "led by a TABLE that is MISSING", "lead 1 2 = -1", "tide 1 1 = 12", "tide 1 1000 = 3");
        lines(told, "led by an empty row", "lead 1 2 = -1", "row 2 0", "tide 1 1 = 12", "tide 1 1000 = 3");
        lines(told, "led by a row that comes and goes", "lead 1 2", "row 2 2", "put 2 1 17", "tide 1 1 = 17",
            "lose 2 = 1", "tide 1 1 = 12", "row 2 2", "tide 1 1 = 0", "row 2 0", "tide 1 1 = 12");
    }

    private static void draws() {
        String seed = "DRAWS: SEED (an int; 1 at first)";
        lines(seed, "1 at first", "count 9 = 1", "seed 0 = 1");
        lines(seed, "its least and its greatest", "seed -2147483648 = 1", "seed 2147483647 = -2147483648",
            "seed 0 = 2147483647");
        String round = "a DRAW below n: SEED becomes SEED times 1103515245, and 12345 (an int that goes round)";
        int[][] rows = {{1, 1103527590}, {0, 12345}, {-1, -1103502900}, {Integer.MAX_VALUE, 1043980748},
            {Integer.MIN_VALUE, -2147471303}, {1103527590, -1770082073}};
        for (int[] row : rows) {
            lines(round, "a draw from " + row[0], "share 0 1", "draws 1", "seed " + row[0], "nights 1",
                "seed 0 = " + row[1]);
        }
        lines(round, "once for each draw", "share 0 1", "draws 8", "nights 1", "seed 0 = -1661227463");
        String bits = "then its bits from 16 on, without a sign, modulo n";
        // A SEED of -1770082073 has 38526 as bits from 16 on: 5 modulo 7; with a sign it would be -27010.
        lines(bits, "a SEED below 0 is drawn without its sign", "seed 1103527590", "share 0 1", "share 1 1",
            "share 2 1", "share 3 1", "share 4 1", "share 5 2", "draws 1", "nights 1", "watched 5 = 1", "watched 4 = 0",
            "seed 0 = -1770082073");
        // 32768 modulo 99 is 98, modulo 594 it is 98 too.
        lines(bits, "the highest bit alone", "seed -2147483648", "share 1 98", "share 3 1", "draws 1", "nights 1",
            "watched 3 = 1", "watched 1 = 0");
        lines(bits, "the highest bit alone, of the greatest sum", "seed -2147483648", "share 0 98", "share 1 99",
            "share 2 99", "share 3 99", "share 4 99", "share 5 99", "draws 1", "nights 1", "watched 0 = 0",
            "watched 1 = 1");
        lines(bits, "bits 0 to 15 are not told", "seed 0", "share 0 1", "share 1 98", "draws 1", "nights 1",
            "seed 0 = 12345", "watched 0 = 1");
    }

    private static void boats() {
        String words = "BOATS have numbers from 0 on (8 at most)";
        test(words, "0 to 7, then none", () -> {
            Run run = S.run();
            for (int b = 0; b < 8; b++) {
                run.due("boat 0 1 0 0", b).due("count 1", b + 1);
                run.due("boatOf " + b + " 0", 0).due("boatOf " + (b + 1) + " 0", -1);
            }
            run.lines("boat 0 1 0 0 = -6", "count 1 = 8", "boatOf 8 0 = -1", "boatOf -1 0 = -1");
        });
        String kinds = "a DRAUGHT (0 .. 20), a HOLD (1 .. 60 casks), a STRENGTH (0 .. 99), BOLD (0 .. 15)";
        lines(kinds, "DRAUGHT", "boat -1 1 0 0 = -4", "boat 0 1 0 0 = 0", "boat 20 1 0 0 = 1", "boat 21 1 0 0 = -6");
        lines(kinds, "HOLD", "boat 0 0 0 0 = -4", "boat 0 1 0 0 = 0", "boat 0 60 0 0 = 1", "boat 0 61 0 0 = -6",
            "load 0 1 = 1", "load 0 1 = -6", "load 1 60 = 60", "load 1 1 = -6");
        lines(kinds, "STRENGTH", "boat 0 1 -1 0 = -4", "boat 0 1 0 0 = 0", "boat 0 1 99 0 = 1", "boat 0 1 100 0 = -6");
        lines(kinds, "BOLD", "boat 0 1 0 -1 = -4", "boat 0 1 0 0 = 0", "boat 0 1 0 15 = 1", "boat 0 1 0 16 = -6");
        String first = "CASKS aboard (0 at first), FEAR of each COVE (0 .. 99; 0 at first)";
        lines(first, "0 CASKS and no FEAR", "boat 20 60 99 15 = 0", "boatOf 0 0 = 0", "boatOf 0 3 = 0",
            "boatOf 0 4 = 0", "boatOf 0 5 = 0", "boatOf 0 6 = 0", "boatOf 0 7 = 0", "boatOf 0 8 = 0", "load 0 0 = 0");
        lines(first, "a BOAT made later, beside one with CASKS and FEAR", Sentences.both(ALL_GUARDED, "boat 0 60 99 15",
            "load 0 7", "nights 1", "boatOf 0 3 = 24", "boat 0 60 99 15 = 1", "boatOf 1 0 = 0", "boatOf 1 3 = 0",
            "boatOf 1 4 = 0", "nights 1", "boatOf 1 3 = 0", "boatOf 1 5 = 0"));
    }

    private static void open() {
        String words = "A COVE is OPEN for a BOAT on a NIGHT if TIDE and DEPTH together are DRAUGHT or more.";
        // TIDE, DEPTH, DRAUGHT, and whether it is OPEN.
        int[][] rows = {{0, 0, 0, 1}, {0, 0, 1, 0}, {0, 3, 3, 1}, {0, 3, 4, 0}, {20, 0, 20, 1}, {19, 0, 20, 0},
            {11, 9, 20, 1}, {10, 9, 20, 0}, {20, 9, 20, 1}, {7, 5, 12, 1}, {7, 5, 13, 0}};
        for (int[] row : rows) {
            test(words, "TIDE " + row[0] + ", DEPTH " + row[1] + ", DRAUGHT " + row[2], () -> {
                Run run = S.run().lines(ALL_SHUT).lines("put 0 0 " + row[0]);
                for (int c = 0; c < 6; c++) {
                    run.lines("cove " + c + " " + row[1] + " 10");
                }
                run.lines("boat " + row[2] + " 9 0 15", "load 0 1", "nights 1 = 0", "boatOf 0 2 = " + row[3]);
            });
        }
        lines(words, "the TIDE of the NIGHT that passes, not of the one ahead", Sentences.both(ALL_SHUT, "row 0 3",
            "put 0 1 1", "boat 4 9 0 15", "load 0 1", "nights 1", "boatOf 0 2 = 1", "nights 2", "boatOf 0 2 = 1",
            "nights 1", "boatOf 0 2 = 2"));
    }

    private static void hidesAndLots() {
        String hides = "HIDES have numbers from 0 on (12 at most)";
        test(hides, "0 to 11, then none", () -> {
            Run run = S.run();
            for (int h = 0; h < 12; h++) {
                run.due("hideOf " + h + " 2", -1).due("hide " + h % 6 + " 1 1", h).due("hideOf " + h + " 2", h % 6);
            }
            run.lines("hide 0 1 1 = -6", "count 2 = 12", "hideOf 12 2 = -1", "hideOf -1 2 = -1", "search 12 = -1",
                "search 11 = 0");
        });
        String kinds = "a COVE, a ROOM (1 .. 200 casks), a COST (1 .. 20 hours of a search), a GUESS (0 .. 999; 0 at "
            + "first)";
        lines(kinds, "COVE", "hide -1 1 1 = -1", "hide 0 1 1 = 0", "hide 5 1 1 = 1", "hide 6 1 1 = -1");
        lines(kinds, "ROOM", "hide 0 0 1 = -4", "hide 0 1 1 = 0", "hide 0 200 1 = 1", "hide 0 201 1 = -6");
        lines(kinds, "COST", "hide 0 1 0 = -4", "hide 0 1 1 = 0", "hide 0 1 20 = 1", "hide 0 1 21 = -6");
        lines(kinds, "GUESS 0 at first", "hide 0 200 20", "hideOf 0 1 = 0", "hideOf 0 0 = 0", "best 100 = 0");
        lines(kinds, "a ROOM of 200 holds 200 and no more", "hide 0 200 1", "boat 0 60 0 15", "load 0 60",
            "nights 1 = 1", "load 0 60", "nights 1 = 1", "load 0 60", "nights 1 = 1", "load 0 21", "nights 1 = 0",
            "boatOf 0 2 = 1", "boat 0 60 0 15", "load 1 20", "nights 1 = 1", "hideOf 0 0 = 200", "load 1 1",
            "nights 1 = 0", "hideOf 0 0 = 200");
        String lots = "LOTS have numbers from 0 on (100 at most)";
        test(lots, "0 to 99, then none", () -> {
            Run run = S.run().lines("hide 0 200 1", "boat 0 60 0 15");
            for (int lot = 0; lot < 100; lot++) {
                run.due("load 0 1", 1).due("nights 1", 1).due("lotOf " + lot + " 2", lot + 1);
            }
            run.lines("lotOf 100 0 = -1", "lotOf -1 0 = -1", "load 0 1", "nights 1 = 0", "count 3 = 100",
                "lotOf 100 0 = -1", "lotOf 99 1 = 1", "hideOf 0 0 = 100");
        });
        String lie = "0 in a HIDE, 1 in THE STORE (taken on that shore), 2 in THE STORE (found in a HIDE)";
        lines(lie, "each of them", "hide 0 60 1", "boat 0 9 0 15", "load 0 9", "nights 1 = 1", "lotOf 0 4 = 0",
            "stand 0 1", "load 0 8", "nights 1 = 1", "lotOf 1 4 = 1", "lotOf 0 4 = 0", "search 0 = 9", "lotOf 0 4 = 2",
            "lotOf 1 4 = 1");
        lines(lie, "of two that lie in one HIDE both are found, of another none", "hide 0 5 1", "hide 0 60 1",
            "boat 0 9 0 15", "load 0 4", "nights 1", "load 0 3", "nights 1", "load 0 1", "nights 1", "search 0 = 5",
            "lotOf 0 4 = 2", "lotOf 1 4 = 0", "lotOf 2 4 = 2", "search 0 = 0", "search 1 = 3");
    }

    private static void watchers() {
        String standing = "STANDING ones (0 .. 9 for each COVE; 0 at first)";
        for (int c = 0; c < 6; c++) {
            lines(standing, "COVE " + c, "stand " + c + " -1 = -4", "stand " + c + " 10 = -6", "stand " + c + " 9 = 0",
                "nights 1", "watched " + c + " = 9", "watched " + (c + 1) % 6 + " = 0", "stand " + c + " 0 = 9",
                "nights 1", "watched " + c + " = 0");
        }
        String bribed = "A WATCHER may be BRIBED at a COVE (told): one less counts there, not below 0 (so many are "
            + "there all the same).";
        lines(bribed, "of none none counts", "bribe 0 true = 1", "hide 0 9 1", "boat 0 9 0 15", "load 0 1",
            "nights 1 = 1", "lotOf 0 4 = 0", "watched 0 = 0", "boatOf 0 1 = 0");
        lines(bribed, "of one none counts, one is there", "bribe 0 true = 1", "stand 0 1", "hide 0 9 1",
            "boat 0 9 0 15", "load 0 1", "nights 1 = 1", "lotOf 0 4 = 0", "watched 0 = 1", "boatOf 0 3 = 0");
        lines(bribed, "of two one counts, two are there", "bribe 0 true = 1", "stand 0 2", "boat 0 9 9 15",
            "boat 0 9 10 15", "load 0 1", "load 1 1", "nights 1 = 1", "lotOf 0 0 = 0", "boatOf 1 1 = 1",
            "watched 0 = 2");
        lines(bribed, "the only one is seen from the COVE beside", "bribe 1 true = 1", "stand 1 1", "boat 0 9 0 15",
            "load 0 1", "nights 1 = 0", "boatOf 0 4 = 4", "boatOf 0 2 = 1");
        lines(bribed, "a drawn one", "bribe 0 true = 1", "share 0 1", "draws 1", "hide 0 9 1", "boat 0 9 0 15",
            "load 0 1", "nights 1 = 1", "lotOf 0 4 = 0", "watched 0 = 1");
        lines(bribed, "bribed no longer", "bribe 0 true = 1", "bribe 0 false = 1", "stand 0 1", "boat 0 9 9 15",
            "load 0 1", "nights 1 = 1", "lotOf 0 4 = 1");
    }

    private static void drawn() {
        String n = "N (0 .. 9; 0 at first) draws below the sum of SHARES";
        lines(n, "none at first", "share 0 99", "nights 1", "watched 0 = 0", "seed 1 = 1", "draws 0 = 0");
        lines(n, "9 are drawn, 10 and -1 are refused", "share 3 1", "draws 10 = -6", "draws -1 = -4", "draws 9 = 0",
            "nights 1", "watched 3 = 9", "draws 0 = 9", "nights 1", "watched 3 = 0");
        lines(n, "9 that stand and 9 that are drawn", "stand 5 9", "share 5 99", "draws 9", "nights 1",
            "watched 5 = 18");
        String sum = "(0 .. 99 for each COVE; 0 at first; none drawn if the sum is 0)";
        lines(sum, "no SHARES: none drawn, SEED stays", "draws 9", "seed 5", "nights 9", "seed 0 = 5", "watched 0 = 0",
            "watched 5 = 0");
        lines(sum, "the only SHARE taken back", "draws 3", "share 2 7", "nights 1", "watched 2 = 3", "share 2 0 = 7",
            "seed 5", "nights 1", "watched 2 = 0", "seed 0 = 5");
        lines(sum, "a sum of 1", "draws 3", "share 4 1 = 0", "nights 1", "watched 4 = 3");
        for (int c = 0; c < 6; c++) {
            lines(sum, "SHARE of COVE " + c, "share " + c + " -1 = -4", "share " + c + " 100 = -6",
                "share " + c + " 99 = 0", "share " + c + " 0 = 99", "share " + c + " 1 = 0");
        }
        String first = "the first COVE with which the SHARES so far, its own too, are above the number drawn";
        // From SEED 0 the draw is 0; from SEED 1 it is 16838; from -1 it is 48697.
        lines(first, "0 drawn, COVE 0 without a SHARE", "seed 0", "share 1 1", "share 2 9", "draws 1", "nights 1",
            "watched 0 = 0", "watched 1 = 1");
        lines(first, "one below the SHARES so far: 16838 modulo 20 is 18", "share 1 12", "share 2 7", "share 3 1",
            "draws 1", "nights 1", "watched 2 = 1", "watched 3 = 0");
        lines(first, "just the SHARES so far: 16838 modulo 20 is 18", "share 1 12", "share 2 6", "share 3 2", "draws 1",
            "nights 1", "watched 2 = 0", "watched 3 = 1");
        lines(first, "just the SHARES so far, then COVES without one", "share 0 18", "share 5 2", "draws 1", "nights 1",
            "watched 0 = 0", "watched 1 = 0", "watched 4 = 0", "watched 5 = 1");
        lines(first, "the last number of all: 16838 modulo 9 is 8", "share 0 4", "share 4 5", "draws 1", "nights 1",
            "watched 4 = 1", "watched 5 = 0");
        // 594 is the greatest sum: 48697 modulo 594 is 583, of COVE 5's 495 to 593.
        lines(first, "the greatest sum", "seed -1", "share 0 99", "share 1 99", "share 2 99", "share 3 99",
            "share 4 99", "share 5 99", "draws 1", "nights 1", "watched 5 = 1");
    }

    private static void choice() {
        String bold = "if LIGHT is no more than BOLD (else it stays)";
        int[][] rows = {{1, 14, 1}, {1, 13, 0}, {15, 0, 1}, {14, 0, 0}, {16, 0, 0}, {14, 1, 1}, {16, 1, 1}, {30, 15, 1},
            {30, 14, 0}, {29, 14, 1}, {29, 13, 0}};
        for (int[] row : rows) {
            test(bold, "BOLD " + row[1] + " on NIGHT " + row[0], () -> {
                Run run = after(row[0] - 1).lines("boat 0 9 0 " + row[1], "load 0 1", "nights 1 = 0");
                run.due("boatOf 0 2", row[2]);
            });
        }
        String casks = "BOATS, by numbers, with CASKS";
        lines(casks, "without CASKS it stays", Sentences.both(ALL_GUARDED, "boat 0 9 99 15", "nights 3 = 0",
            "boatOf 0 1 = 0", "boatOf 0 2 = 0", "boatOf 0 3 = 0", "boatOf 0 4 = 0"));
        lines(casks, "with one it goes", Sentences.both(ALL_GUARDED, "boat 0 9 99 15", "load 0 1", "nights 3 = 0",
            "boatOf 0 1 = 3"));
        lines(casks, "the lower number comes first", "hide 0 9 1", "boat 0 9 0 15", "boat 0 9 0 15", "load 1 9",
            "load 0 8", "nights 1 = 1", "lotOf 0 0 = 0", "boatOf 1 2 = 1");
        String which = "that with the least FEAR, of these the greatest WORTH, of these the least number: it goes "
            + "there; without one it stays";
        lines(which, "all alike: COVE 0", "hide 0 9 1", "boat 0 9 0 15", "load 0 1", "nights 1 = 1", "lotOf 0 3 = 0");
        lines(which, "one more WORTH: COVE 5", "cove 5 3 11", "hide 5 9 1", "boat 0 9 0 15", "load 0 1", "nights 1 = 1",
            "lotOf 0 3 = 5");
        lines(which, "two of the greatest WORTH: the lower number", "cove 5 3 11", "cove 4 3 11", "cove 1 3 9",
            "hide 4 9 1", "boat 0 9 0 15", "load 0 1", "nights 1 = 1", "lotOf 0 3 = 4");
        // FEAR 5 of COVE 1 is 4 after the night, 1 three nights later, 0 four nights later.
        lines(which, "a FEAR of 1 goes before all WORTH", "stand 1 1", "hide 0 1 1", "hide 2 9 1", "boat 0 9 0 15",
            "load 0 1", "nights 1 = 1", "boatOf 0 4 = 4", "stand 1 0", "cove 1 3 99", "cove 2 3 98", "nights 3",
            "boatOf 0 4 = 1", "load 0 1", "nights 1 = 1", "lotOf 1 3 = 2");
        lines(which, "no FEAR left: the greatest WORTH", "stand 1 1", "hide 0 1 1", "hide 1 9 1", "boat 0 9 0 15",
            "load 0 1", "nights 1 = 1", "stand 1 0", "cove 1 3 99", "cove 2 3 98", "nights 4", "boatOf 0 4 = 0",
            "load 0 1", "nights 1 = 1", "lotOf 1 3 = 1");
        lines(which, "none is OPEN: it stays", Sentences.both(ALL_SHUT, "boat 4 9 99 15", "load 0 1", "hide 0 9 1",
            "nights 9 = 0", "boatOf 0 0 = 1", "boatOf 0 1 = 0", "boatOf 0 2 = 0"));
        lines(which, "the only OPEN one, however feared", Sentences.both(Sentences.both(ALL_SHUT, ALL_SHUT_BUT_2),
            "stand 2 1", "boat 20 9 99 15", "load 0 1", "nights 6 = 0", "boatOf 0 1 = 6", "boatOf 0 5 = 98"));
    }

    private static void seized() {
        String words = "if its STRENGTH is less than 10 times as many, its CASKS are SEIZED: a LOT, in THE STORE; "
            + "else it gets away with them";
        for (int watchers = 1; watchers <= 9; watchers++) {
            int many = watchers;
            test(words, many + " WATCHERS", () -> {
                Run run = S.run().lines("stand 0 " + many, "boat 0 9 " + (10 * many - 1) + " 15",
                    "boat 0 9 " + 10 * many + " 15", "load 0 7", "load 1 7", "nights 1 = 1", "lotOf 0 0 = 0",
                    "lotOf 0 1 = 7", "lotOf 0 4 = 1");
                run.lines("boatOf 0 0 = 0", "boatOf 0 1 = 0", "boatOf 1 0 = 7", "boatOf 1 1 = 1", "boatOf 0 3 = 24",
                    "boatOf 1 3 = 24");
            });
        }
        lines(words, "10 WATCHERS seize the strongest", "stand 0 9", "share 0 1", "draws 1", "boat 0 9 99 15",
            "load 0 7", "nights 1 = 1", "watched 0 = 10", "boatOf 0 1 = 0");
        lines(words, "STRENGTH 0 and no WATCHER", "hide 0 9 1", "boat 0 9 0 15", "load 0 7", "nights 1 = 1",
            "lotOf 0 4 = 0");
        String full = "(Once there are 100 LOTS, BOATS stay.)";
        test(full, "the 100th comes, the next BOAT of that NIGHT stays", () -> {
            Run run = hundredLess(1).lines("load 0 1", "load 1 1", "nights 1 = 1", "boatOf 0 0 = 0", "boatOf 1 0 = 1");
            run.lines("boatOf 1 2 = 0", "count 3 = 100", "nights 1 = 0", "boatOf 1 0 = 1", "boatOf 1 2 = 0");
        });
        test(full, "100 LOTS are told, and a WORD of another COVE is WRONG", () -> {
            Run run = hundredLess(0).lines("word 0 101 0 = 0", "word 0 102 5 = 1", "nights 1 = 0", "count 6 = 1",
                "nights 1 = 0", "count 6 = 2");
            run.lines("count 5 = 0", "landed 0 2 = 29", "landed 1 2 = 30", "landed 3 2 = 11", "landed 4 2 = 0",
                "landed 3 3 = 0");
            run.lines("search 0 = 100", "landed 3 2 = 0", "landed 3 3 = 11");
        });
        test(full, "two have room", () -> hundredLess(2).lines("load 0 1", "load 1 1", "nights 1 = 2",
            "boatOf 1 0 = 0"));
        test(full, "none gets away, none fears, and none goes home", () -> {
            Run run = hundredLess(0).lines("load 2 1", "load 1 1").lines(ALL_GUARDED);
            run.lines("nights 3 = 0", "boatOf 2 1 = 0", "boatOf 2 3 = 0", "boatOf 2 4 = 0", "boatOf 1 3 = 0",
                "search 0 = 100", "nights 1 = 0", "stand 0 0", "nights 1 = 0", "boatOf 2 2 = 0");
        });
    }

    /** Three BOATS, the last of STRENGTH 99, and so many LOTS less than 100 in a HIDE. */
    private static Run hundredLess(int less) {
        Run run = S.run().lines("hide 0 200 1", "boat 0 9 0 15", "boat 0 9 0 15", "boat 0 9 99 15");
        for (int lot = 0; lot < 100 - less; lot++) {
            run.ask("load 0 1");
            run.due("nights 1", 1);
        }
        return run;
    }

    private static void hidden() {
        String words = "the first HIDE of that COVE (by numbers) that has room for all its CASKS gets them: a LOT "
            + "that lies there; "
            + "without one it goes home with them";
        lines(words, "room for just as many", "hide 0 9 1", "boat 0 9 0 15", "load 0 9", "nights 1 = 1",
            "hideOf 0 0 = 9", "boatOf 0 0 = 0", "boatOf 0 2 = 0");
        lines(words, "room for one less", "hide 0 8 1", "boat 0 9 0 15", "load 0 9", "nights 1 = 0", "hideOf 0 0 = 0",
            "boatOf 0 0 = 9", "boatOf 0 2 = 1");
        lines(words, "what lies there takes room", "hide 0 9 1", "boat 0 9 0 15", "load 0 4", "nights 1 = 1",
            "load 0 6", "nights 1 = 0", "boat 0 9 0 15", "load 1 5", "nights 1 = 1", "hideOf 0 0 = 9",
            "boatOf 0 2 = 2");
        lines(words, "the first is one too small, the next gets them", "hide 0 8 1", "hide 0 9 1", "hide 0 10 1",
            "boat 0 9 0 15", "load 0 9", "nights 1 = 1", "lotOf 0 5 = 1");
        lines(words, "no HIDE at all", "boat 0 9 0 15", "load 0 9", "nights 2 = 0", "boatOf 0 2 = 2", "boatOf 0 0 = 9",
            "count 3 = 0");
        lines(words, "one of another COVE alone", "hide 1 60 1", "boat 0 9 0 15", "load 0 9", "nights 1 = 0",
            "boatOf 0 2 = 1");
        lines(words, "found casks leave room", "hide 0 9 1", "boat 0 9 0 15", "load 0 9", "nights 1 = 1",
            "search 0 = 9", "load 0 9", "nights 1 = 1", "hideOf 0 0 = 9", "lotOf 1 5 = 0");
        test(words, "none of 12 HIDES has room", () -> {
            Run run = S.run();
            for (int h = 0; h < 12; h++) {
                run.due("hide 0 8 1", h);
            }
            run.lines("boat 0 9 0 15", "load 0 9", "nights 1 = 0", "boatOf 0 2 = 1", "boatOf 0 0 = 9");
        });
        lines(words, "the last HIDE of 12", "hide 1 9 1", "hide 1 9 1", "hide 1 9 1", "hide 1 9 1", "hide 1 9 1",
            "hide 1 9 1", "hide 1 9 1", "hide 1 9 1", "hide 1 9 1", "hide 1 9 1", "hide 1 9 1", "hide 0 9 1",
            "boat 0 9 0 15", "load 0 9", "nights 1 = 1", "lotOf 0 5 = 11");
    }

    /**
     * FEAR of COVE 2 after as many NIGHTS: O it goes there and gets away (25 more), N it goes to COVE 3 and sees
     * the WATCHER at COVE 2 (5 more), R it rests; 1 less each NIGHT.
     */
    private static void fear(String words, String side, String nights, int due) {
        test(words, side + ": " + nights, () -> {
            Run run = S.run().lines(ALL_SHUT).lines("row 1 30", "row 2 30", "lead 2 1", "lead 3 2", "stand 2 1");
            run.lines("boat 20 9 99 15", "load 0 1");
            for (int night = 1; night <= nights.length(); night++) {
                run.due("put 1 " + night + " " + (nights.charAt(night - 1) == 'O' ? 20 : 0), 0);
                run.due("put 2 " + night + " " + (nights.charAt(night - 1) == 'N' ? 20 : 0), 0);
            }
            run.due("nights " + nights.length(), 0).due("boatOf 0 5", due);
        });
    }

    private static void fears() {
        String more = "Its FEAR of the COVE is then 25 more (to 99 at most).";
        fear(more, "from 0", "O", 24);
        fear(more, "from 73", "OOONRRRO", 97);
        fear(more, "from 74 it is just 99, and 1 less", "OOONRRO", 98);
        fear(more, "from 75 it would be 100", "OOONRO", 98);
        fear(more, "from 98 it would be 123", "OOOOOO", 98);
        fear(more, "then 1 less each NIGHT, from 99 on", "OOOOOR", 97);
        lines(more, "also of one whose CASKS are SEIZED", "stand 0 1", "boat 0 9 0 15", "load 0 1", "nights 1 = 1",
            "boatOf 0 3 = 24");
        lines(more, "not where none count", "boat 0 9 0 15", "load 0 1", "nights 1 = 0", "boatOf 0 3 = 0");
        String beside = "its FEAR of each where some are is 5 more";
        fear(beside, "from 0", "N", 4);
        fear(beside, "from 93", "OOOORRRN", 97);
        fear(beside, "from 94 it is just 99, and 1 less", "OOOORRN", 98);
        fear(beside, "from 95 it would be 100", "OOOORN", 98);
        fear(beside, "from 98 it would be 103", "OOOOON", 98);
        String less = "All FEARS are 1 less, not below 0 (each NIGHT).";
        fear(less, "from 4 to 1", "NRRR", 1);
        fear(less, "from 1 to 0", "NRRRR", 0);
        fear(less, "0 stays 0", "NRRRRRRR", 0);
        fear(less, "0 that stayed is 0 for what comes", "RRNRRRRRRO", 24);
        lines(less, "also of a BOAT that stays", "stand 0 1", "boat 0 9 0 15", "boat 0 9 0 15", "load 0 1",
            "nights 1 = 1", "boatOf 0 3 = 24", "boatOf 1 3 = 0", "nights 1", "boatOf 0 3 = 23", "boatOf 1 3 = 0");
        lines(less, "of every COVE and the last BOAT", Sentences.both(ALL_GUARDED, "boat 0 9 99 15", "boat 0 9 99 15",
            "boat 0 9 99 15", "boat 0 9 99 15", "boat 0 9 99 15", "boat 0 9 99 15", "boat 0 9 99 15", "boat 0 9 99 15",
            "load 7 1", "cove 5 3 99", "nights 1", "boatOf 7 8 = 24", "boatOf 7 7 = 4", "boatOf 7 6 = 0",
            "boatOf 6 8 = 0", "boatOf 7 3 = 0"));
    }

    private static void besides() {
        String words = "at the COVES beside its own (numbers 1 more and 1 less)";
        int[][] rows = {{24, 4, 0, 0, 0, 0}, {4, 24, 4, 0, 0, 0}, {0, 4, 24, 4, 0, 0}, {0, 0, 4, 24, 4, 0},
            {0, 0, 0, 4, 24, 4}, {0, 0, 0, 0, 4, 24}};
        for (int c = 0; c < 6; c++) {
            int cove = c;
            test(words, "from COVE " + c, () -> {
                Run run = S.run().lines(ALL_GUARDED).lines("cove " + cove + " 3 11", "boat 0 9 99 15", "load 0 1",
                    "nights 1 = 0");
                for (int other = 0; other < 6; other++) {
                    run.due("boatOf 0 " + (3 + other), rows[cove][other]);
                }
            });
        }
        String some = "its FEAR of each where some are is 5 more";
        lines(some, "one is there", "stand 1 1", "boat 0 9 0 15", "load 0 1", "nights 1 = 0", "boatOf 0 4 = 4");
        lines(some, "18 are there", "stand 1 9", "share 1 1", "draws 9", "boat 0 9 0 15", "load 0 1", "nights 1 = 0",
            "watched 1 = 18", "boatOf 0 4 = 4");
        lines(some, "none is there", "stand 2 9", "boat 0 9 0 15", "load 0 1", "nights 1 = 0", "boatOf 0 4 = 0",
            "boatOf 0 5 = 0");
        lines(some, "a BOAT that stays sees none", "stand 1 1", "boat 0 9 0 13", "load 0 1", "nights 1 = 0",
            "boatOf 0 4 = 0");
        lines(some, "one whose CASKS are hidden sees them too", "stand 1 1", "hide 0 9 1", "boat 0 9 0 15", "load 0 1",
            "nights 1 = 1", "boatOf 0 4 = 4");
        lines(some, "one whose CASKS are SEIZED sees them too", "stand 0 1", "stand 1 1", "boat 0 9 0 15", "load 0 1",
            "nights 1 = 1", "boatOf 0 4 = 4");
    }
}
