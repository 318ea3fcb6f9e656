import java.math.BigInteger;
import java.util.ArrayList;
import java.util.List;

/**
 * "Terms", of laws, words, searches, the game, spans and refusals: each sentence that names a boundary has tests
 * of its own, named by its words.
 */
public final class TermsOfLawTest {
    private static final Sentences S = new Sentences();

    public static void main(String[] args) {
        laws();
        parts();
        words();
        beliefs();
        guesses();
        searches();
        best();
        game();
        spans();
        refusals();
        S.finish();
    }

    private static void test(String words, String side, Runnable test) {
        S.test("Terms", words, side, test);
    }

    private static void lines(String words, String side, String... lines) {
        S.lines("Terms", words, side, lines);
    }

    private static void laws() {
        String words = "LAWS have numbers from 0 on (20 at most)";
        test(words, "0 to 19, then none", () -> {
            Run run = S.run();
            for (int law = 0; law < 20; law++) {
                run.due("law 1 1 0", law).due("count 7", law + 1);
            }
            run.lines("law 1 1 0 = -6", "count 7 = 20");
        });
        test(words, "LAW 19 is in force", () -> {
            Run run = S.run().lines("price 100", "stand 0 1", "boat 0 9 0 15", "load 0 1");
            for (int law = 0; law < 20; law++) {
                run.due("law " + (law + 1) + " 0 1", law);
            }
            run.lines("nights 1 = 1", "coins 0 = 20");
        });
        String parts = "parts in hundredths for the CREW and the INFORMER (together 100 at most), from a NIGHT on "
            + "(now or later)";
        lines(parts, "100 together are taken, 101 are not", "law 60 40 0 = 0", "law 61 40 0 = -6", "law 60 41 0 = -6",
            "law 100 0 0 = 1", "law 100 1 0 = -6", "law 101 0 0 = -6", "law 0 100 0 = 2", "law 1 100 0 = -6",
            "law 0 101 0 = -6", "law 0 0 0 = 3");
        lines(parts, "a sum that goes round an int is above 100 too", "law 2147483647 1 0 = -6",
            "law 2147483647 2147483647 0 = -6", "law 1 2147483647 0 = -6", "count 16 = 3", "count 7 = 0");
        lines(parts, "now is taken, the NIGHT before is not", "nights 5", "law 1 1 5 = 0", "law 1 1 4 = -4",
            "law 1 1 6 = 1", "law 1 1 1000 = 2", "law 1 1 1001 = -6");
        String force = "in force is the one with the latest NIGHT not behind it, of several the greatest number; "
            + "without one 0 and 0";
        lines(force, "the NIGHT itself, not the one before", "price 100", "law 7 0 2", "stand 0 1", "boat 0 9 0 15",
            "load 0 1", "nights 1", "coins 0 = 0", "coins 1 = 100", "stand 0 0", "stand 1 1", "load 0 1", "nights 1",
            "lotOf 1 3 = 1", "coins 0 = 7", "coins 1 = 193");
        lines(force, "without one", "price 100", "law 50 50 2", "word 0 1 0", "stand 0 1", "boat 0 9 0 15", "load 0 1",
            "nights 1", "coins 0 = 0", "coins 1 = 100", "coins 2 = 0");
        lines(force, "the later NIGHT, though its number is less", "price 100", "law 9 0 1", "law 5 0 0", "stand 0 1",
            "boat 0 9 0 15", "load 0 1", "nights 1", "coins 0 = 9");
        lines(force, "of one NIGHT the greatest number", "price 100", "law 9 0 1", "law 5 0 1", "law 8 0 1",
            "stand 0 1", "boat 0 9 0 15", "load 0 1", "nights 1", "coins 0 = 8");
        lines(force, "one that is behind stays out of force", "price 100", "law 9 0 0", "law 5 0 2", "stand 0 1",
            "boat 0 9 0 15", "load 0 1", "nights 1", "coins 0 = 9");
        lines(force, "NIGHT 1000", "price 100", "law 9 0 999", "law 5 0 1000", "nights 999", "stand 0 1",
            "boat 0 9 0 15", "load 0 1", "nights 1", "coins 0 = 5");
    }

    private static void parts() {
        String price = "With the PRICE (0 .. 999; 0 at first) v is casks times PRICE";
        lines(price, "0 at first", "stand 0 1", "boat 0 60 0 15", "load 0 60", "nights 1 = 1", "coins 1 = 0",
            "price 0 = 0");
        lines(price, "999 is taken, 1000 and -1 are not", "price 999 = 0", "price 1000 = -6", "price -1 = -4",
            "price 0 = 999");
        lines(price, "60 casks at 999", "price 999", "stand 0 1", "boat 0 60 0 15", "load 0 60", "nights 1 = 1",
            "coins 1 = 59940");
        test(price, "100 LOTS of 60 casks at 999, all for the CREW", () -> {
            Run run = S.run().lines("price 999", "law 100 0 0");
            for (int c = 0; c < 6; c++) {
                run.lines("stand " + c + " 1");
            }
            for (int b = 0; b < 8; b++) {
                run.lines("boat 0 60 0 15");
            }
            for (int lot = 0; lot < 100; lot++) {
                run.due("load " + lot % 8 + " 60", 60);
                if (lot % 8 == 7 || lot == 99) {
                    run.ask("nights 1");
                }
            }
            run.lines("count 3 = 100", "coins 0 = 5994000", "coins 1 = 0", "landed 0 3 = 6000");
        });
        String cut = "CREW gets v times its part by 100, cut; INFORMER likewise";
        lines(cut, "1 at 99 and 1 hundredths is nothing for both", parted("law 99 1 0", 1, 1, 0, 1, 0));
        lines(cut, "100 at 99 and 1 hundredths", parted("law 99 1 0", 1, 100, 99, 0, 1));
        lines(cut, "199 at 50 and 50 hundredths: 1 is left", parted("law 50 50 0", 1, 199, 99, 1, 99));
        lines(cut, "99 at 1 hundredth is nothing, 101 is 1", parted("law 1 1 0", 1, 99, 0, 99, 0));
        lines(cut, "101 at 1 hundredth", parted("law 1 1 0", 1, 101, 1, 99, 1));
        lines(cut, "all of it for the CREW", parted("law 100 0 0", 60, 999, 59940, 0, 0));
        lines(cut, "all of it for the INFORMER", parted("law 0 100 0", 60, 999, 0, 0, 59940));
        lines(cut, "none of it for either", parted("law 0 0 0", 60, 999, 0, 59940, 0));
        lines("SEIZED casks (each LOT by itself) are parted", "two of 1 at 50 hundredths: each is cut", "price 1",
            "law 50 0 0", "stand 0 1", "boat 0 9 0 15", "boat 0 9 0 15", "load 0 1", "load 1 1", "nights 1 = 2",
            "coins 0 = 0", "coins 1 = 2");
        String told = "if a WORD named that COVE for that NIGHT (to the one whose WORD it was, of several the first "
            + "one told), else 0; the CROWN what is left";
        String[] before = {"price 100", "law 0 30 0", "stand 0 1", "boat 0 9 0 15", "load 0 1"};
        lines(told, "no WORD", Sentences.both(before, "nights 1", "coins 0 = 0", "coins 1 = 100", "coins 2 = 0",
            "coins 7 = 0"));
        lines(told, "of another COVE", Sentences.both(before, "word 0 1 1", "nights 1", "coins 1 = 100",
            "coins 2 = 0"));
        lines(told, "of the next NIGHT", Sentences.both(before, "word 0 2 0", "nights 1", "coins 1 = 100",
            "coins 2 = 0"));
        lines(told, "of the NIGHT before", Sentences.both(before, "word 0 1 0", "stand 0 0", "nights 1 = 0",
            "stand 0 1", "nights 1 = 1", "lotOf 0 3 = 0", "coins 1 = 100", "coins 2 = 0"));
        lines(told, "INFORMER 5", Sentences.both(before, "word 5 1 0", "nights 1", "coins 7 = 30", "coins 1 = 70"));
        lines(told, "two, the first one told is of the greater number", Sentences.both(before, "word 4 2 0",
            "word 5 1 0", "word 0 1 0", "nights 1", "coins 7 = 30", "coins 2 = 0", "coins 6 = 0"));
        test(told, "60 WORDS, none of that COVE for that NIGHT", () -> {
            Run run = S.run().lines(before);
            for (int w = 0; w < 60; w++) {
                run.due("word 0 " + (w + 2) + " 0", w);
            }
            run.lines("nights 1 = 1", "coins 1 = 100", "coins 2 = 0");
        });
        String found = "Of LOTS found in a HIDE: as of the NIGHT of the search, INFORMER 0.";
        String[] hidden = {"price 100", "law 10 20 0", "law 30 40 2", "law 50 50 3", "hide 0 9 1", "boat 0 9 0 15",
            "load 0 1", "word 0 1 0", "nights 1 = 1", "coins 1 = 0"};
        lines(found, "found on the NIGHT that they came", Sentences.both(hidden, "search 0 = 1", "coins 0 = 10",
            "coins 1 = 90", "coins 2 = 0"));
        lines(found, "found a NIGHT later", Sentences.both(hidden, "nights 1", "search 0 = 1", "coins 0 = 30",
            "coins 1 = 70", "coins 2 = 0"));
        lines(found, "found two NIGHTS later", Sentences.both(hidden, "nights 2", "search 0 = 1", "coins 0 = 50",
            "coins 1 = 50", "coins 2 = 0"));
        lines(found, "at the PRICE of the search", Sentences.both(hidden, "price 10", "search 0 = 1", "coins 0 = 1",
            "coins 1 = 9"));
    }

    /** So many casks SEIZED where INFORMER 3 has a WORD: what the CREW, the CROWN and he get. */
    private static String[] parted(String law, int casks, int price, int crew, int crown, int informer) {
        return new String[] {"price " + price, law + " = 0", "word 3 1 0 = 0", "stand 0 1", "boat 0 60 0 15", "load 0 "
            + casks, "nights 1 = 1", "coins 0 = " + crew, "coins 1 = " + crown, "coins 5 = " + informer};
    }

    private static void words() {
        lines("INFORMERS 0 to 5.", "0 and 5 are there, -1 and 6 are not", "word 0 1 0 = 0", "word 5 1 0 = 1",
            "word -1 1 0 = -1", "word 6 1 0 = -1", "weight 0 1 = 2", "weight 5 1 = 2", "weight -1 1 = -1",
            "weight 6 1 = -1", "coins 7 = 0", "coins 8 = -2");
        String words = "A WORD: an INFORMER, a NIGHT (behind now), a COVE (60 WORDS at most; not twice the same).";
        lines(words, "the next NIGHT is behind now, now is not", "word 0 0 0 = -4", "word 0 1 0 = 0", "nights 1",
            "word 0 1 1 = -4", "word 0 2 1 = 1", "word 0 1000 0 = 2", "word 0 1001 0 = -6");
        lines(words, "on the last NIGHT none is behind now", "nights 999", "word 0 1000 0 = 0", "nights 1",
            "word 0 1000 1 = -4", "word 0 1001 1 = -6");
        lines(words, "not twice the same, but of another INFORMER, NIGHT or COVE", "word 1 5 2 = 0", "word 1 5 2 = -3",
            "word 2 5 2 = 1", "word 1 6 2 = 2", "word 1 5 3 = 3", "word 2 5 2 = -3", "word 1 6 2 = -3",
            "word 1 5 3 = -3", "count 4 = 4");
        test(words, "60 are told, the next is refused", () -> {
            Run run = S.run();
            for (int w = 0; w < 60; w++) {
                run.due("word " + w % 6 + " " + (w + 1) + " 3", w).due("count 4", w + 1);
            }
            run.lines("word 0 1 0 = -6", "count 4 = 60", "nights 60", "word 0 61 0 = -6", "count 6 = 60");
        });
        test(words, "the 60th counts as the others", () -> {
            Run run = S.run().lines("boat 0 9 0 15", "load 0 1", "hide 0 9 1");
            for (int w = 0; w < 59; w++) {
                run.due("word " + w % 6 + " " + (w + 2) + " 3", w);
            }
            run.lines("word 4 1 0 = 59", "word 4 1 0 = -6", "nights 1 = 1", "count 5 = 1", "weight 4 0 = 2",
                "weight 4 1 = 3", "belief 0 1 0 = 2", "hideOf 0 1 = 10");
        });
        String right = "PROVED: RIGHT if a BOAT's goods came to that COVE that NIGHT (SEIZED, or into a HIDE), else "
            + "WRONG";
        lines(right, "SEIZED", "stand 0 1", "boat 0 9 0 15", "load 0 1", "word 0 1 0", "nights 1 = 1", "count 5 = 1",
            "count 6 = 0");
        lines(right, "into a HIDE", "hide 0 9 1", "boat 0 9 0 15", "load 0 1", "word 0 1 0", "nights 1 = 1",
            "count 5 = 1", "count 6 = 0");
        lines(right, "it got away", "stand 0 1", "boat 0 9 99 15", "load 0 1", "word 0 1 0", "nights 1 = 0",
            "count 5 = 0", "count 6 = 1");
        lines(right, "it went home", "boat 0 9 99 15", "load 0 1", "word 0 1 0", "nights 1 = 0", "count 5 = 0",
            "count 6 = 1");
        lines(right, "to another COVE, or on the NIGHT before or after", "hide 0 9 1", "boat 0 9 0 15", "nights 1",
            "load 0 1", "word 0 2 1", "word 0 3 0", "nights 1 = 1", "count 5 = 0", "count 6 = 1", "nights 1",
            "count 6 = 2", "word 1 4 0", "load 0 1", "nights 2 = 1", "count 5 = 1", "lotOf 1 2 = 4");
        lines(right, "goods that came there on an earlier NIGHT", "hide 0 9 1", "boat 0 9 0 15", "load 0 1",
            "word 0 2 0", "nights 2 = 1", "count 5 = 0", "count 6 = 1");
        String proved = "WORDS of that NIGHT are PROVED.";
        lines(proved, "not yet, then, and not once more", "word 0 2 0", "nights 1", "count 6 = 0", "nights 1",
            "count 6 = 1", "nights 5", "count 6 = 1", "count 4 = 1", "weight 0 1 = 3");
        lines(proved, "on the last NIGHT", "word 0 1000 0", "nights 999", "count 6 = 0", "nights 1", "count 6 = 1");
    }

    private static void beliefs() {
        String weight = "WEIGHT of an INFORMER: (RIGHT ones and 1) by (all PROVED ones and 2).";
        lines(weight, "none PROVED", "word 3 1 0", "weight 3 0 = 1", "weight 3 1 = 2");
        lines(weight, "one WRONG", "word 3 1 0", "nights 1", "weight 3 0 = 1", "weight 3 1 = 3", "weight 2 1 = 2");
        lines(weight, "one RIGHT", "hide 0 9 1", "boat 0 9 0 15", "load 0 1", "word 3 1 0", "nights 1",
            "weight 3 0 = 2", "weight 3 1 = 3");
        test(weight, "60 WRONG", () -> sixty(false).lines("count 6 = 60", "count 5 = 0", "weight 2 0 = 1",
            "weight 2 1 = 62"));
        test(weight, "60 RIGHT", () -> sixty(true).lines("count 5 = 60", "count 6 = 0", "weight 2 0 = 61",
            "weight 2 1 = 62", "hideOf 0 1 = 600", "hideOf 1 1 = 600"));
        String belief = "BELIEF in a COVE for a NIGHT: 1 less the product of (1 less WEIGHT) of all INFORMERS with a "
            + "WORD of it (as WEIGHTS are now); 0 without";
        lines(belief, "without a WORD", "word 0 5 1", "belief 1 4 0 = 0", "belief 1 4 1 = 1", "belief 1 6 0 = 0",
            "belief 0 5 0 = 0", "belief 2 5 0 = 0", "belief 1 5 0 = 1", "belief 1 5 1 = 2", "belief 0 0 0 = 0",
            "belief 5 1000 1 = 1");
        test(belief, "all six INFORMERS, ten of each PROVED WRONG", () -> {
            Run run = S.run();
            for (int w = 0; w < 60; w++) {
                run.lines("word " + w / 10 + " " + (1 + w % 10) + " 4 = " + w);
            }
            // 1 less the sixth power of 1 by 2; then of 11 by 12.
            run.lines("belief 4 10 0 = 63", "belief 4 10 1 = 64", "nights 10", "belief 4 10 0 = 1214423",
                "belief 4 10 1 = 2985984");
        });
        test(belief, "60 RIGHT ones of one INFORMER", () -> sixty(true).lines("belief 0 60 0 = 61",
            "belief 0 60 1 = 62"));
        lines(belief, "as WEIGHTS are now, of NIGHTS gone and to come", "word 0 1 0", "word 0 9 0", "belief 0 9 1 = 2",
            "nights 1", "belief 0 9 0 = 1", "belief 0 9 1 = 3", "belief 0 1 0 = 1", "belief 0 1 1 = 3");
    }

    /** 60 NIGHTS, each with a WORD of INFORMER 2 and, if they are to be RIGHT, a cask into HIDE 0. */
    private static Run sixty(boolean right) {
        Run run = S.run().lines("hide 0 100 1", "hide 0 1 20", "boat 0 9 0 15");
        for (int night = 1; night <= 60; night++) {
            run.due("word 2 " + night + " 0", night - 1);
            if (right) {
                run.due("load 0 1", 1);
            }
            run.due("nights 1", right ? 1 : 0);
        }
        return run;
    }

    private static void guesses() {
        String words = "GUESSES: a WORD that is PROVED RIGHT adds 10 to the GUESS of each HIDE of that COVE (to 999 at "
            + "most)";
        // 60 WORDS make 600, so no run of calls comes to 999.
        test(words, "all the 60 WORDS that there may be: 600", () -> sixty(true).lines("hideOf 0 1 = 600",
            "hideOf 1 1 = 600", "best 100 = 3", "best 20 = 1"));
        lines(words, "each HIDE of that COVE, none of another", "hide 0 9 1", "hide 1 9 1", "hide 0 9 1",
            "boat 0 9 0 15", "load 0 1", "word 0 1 0", "nights 1 = 1", "hideOf 0 1 = 10", "hideOf 1 1 = 0",
            "hideOf 2 1 = 10");
        lines(words, "two WORDS of it", "hide 0 9 1", "boat 0 9 0 15", "load 0 1", "word 0 1 0", "word 1 1 0",
            "nights 1 = 1", "hideOf 0 1 = 20");
        lines(words, "a WRONG one adds nothing", "hide 0 9 1", "word 0 1 0", "nights 1 = 0", "hideOf 0 1 = 0");
        lines(words, "a RIGHT one by what was SEIZED there", "hide 0 9 1", "stand 0 1", "boat 0 9 0 15", "load 0 1",
            "word 0 1 0", "nights 1 = 1", "hideOf 0 1 = 10");
        lines(words, "a HIDE that is made later", "boat 0 9 0 15", "stand 0 1", "load 0 1", "word 0 1 0",
            "nights 1 = 1", "hide 0 9 1", "hideOf 0 1 = 0");
    }

    private static void searches() {
        String words = "A SEARCH of a HIDE: all LOTS there are found (SEIZED); its GUESS is half, cut.";
        lines(words, "10, 5, 2, 1, 0, 0", "hide 0 9 1", "boat 0 9 0 15", "load 0 1", "word 0 1 0", "nights 1 = 1",
            "hideOf 0 1 = 10", "search 0 = 1", "hideOf 0 1 = 5", "search 0 = 0", "hideOf 0 1 = 2", "search 0 = 0",
            "hideOf 0 1 = 1", "search 0 = 0", "hideOf 0 1 = 0", "search 0 = 0", "hideOf 0 1 = 0");
        lines(words, "a GUESS of 0 of a HIDE that is empty", "hide 0 9 1", "search 0 = 0", "hideOf 0 1 = 0",
            "count 3 = 0");
        lines(words, "the GUESS of another HIDE stays", "hide 0 9 1", "hide 0 9 1", "boat 0 9 0 15", "load 0 1",
            "word 0 1 0", "nights 1", "search 1 = 0", "hideOf 0 1 = 10", "hideOf 1 1 = 5", "hideOf 0 0 = 1");
        test(words, "600 is 300, then 150, 75, 37", () -> sixty(true).lines("search 0 = 60", "hideOf 0 1 = 300",
            "search 0 = 0", "hideOf 0 1 = 150", "search 0 = 0", "hideOf 0 1 = 75", "search 0 = 0", "hideOf 0 1 = 37",
            "hideOf 1 1 = 600"));
    }

    private static void best() {
        String hours = "THE BEST SEARCHES in so many hours (0 .. 100)";
        lines(hours, "0 and 100 are taken, -1 and 101 are not", "best 0 = 0", "best 100 = 0", "best -1 = -4",
            "best 101 = -6");
        lines(hours, "five of 20 hours in 100, four in 99", Sentences.both(guessed("0 9 20", "0 9 20", "0 9 20",
            "0 9 20", "0 9 20", "0 9 20"), "best 100 = 31", "best 99 = 15", "best 20 = 1", "best 19 = 0"));
        String set = "the set of HIDES whose COSTS together are no more, with the greatest sum of GUESSES; of "
            + "several the fewest HIDES, "
            + "of these the least number as bits";
        lines(set, "no HIDES", "best 100 = 0");
        lines(set, "HIDES without a GUESS", "hide 0 9 1", "hide 1 9 1", "best 100 = 0");
        lines(set, "just the COST, and one hour less", Sentences.both(guessed("0 9 7"), "best 7 = 1", "best 6 = 0",
            "best 8 = 1"));
        lines(set, "just the COSTS of two, and one hour less", Sentences.both(guessed("0 9 7", "0 9 6"), "best 13 = 3",
            "best 12 = 1", "best 6 = 2"));
        lines(set, "one without a GUESS is left out: the fewest", Sentences.both(guessed("1 9 1", "0 9 1"),
            "best 100 = 2"));
        // GUESSES 10, 10 and 20: one of 20 goes before two of 10.
        lines(set, "one HIDE with as much as two", "hide 0 9 1", "hide 0 9 1", "hide 1 9 2", "boat 0 9 0 15",
            "load 0 1", "word 0 1 0", "nights 1", "cove 1 3 99", "load 0 1", "word 0 2 1", "word 1 2 1", "nights 1",
            "hideOf 0 1 = 10", "hideOf 1 1 = 10", "hideOf 2 1 = 20", "best 2 = 4", "best 3 = 5", "best 1 = 1",
            "best 4 = 7");
        lines(set, "two alike: the least number as bits", Sentences.both(guessed("0 9 3", "0 9 3", "0 9 3"),
            "best 3 = 1", "best 5 = 1", "best 6 = 3", "best 8 = 3", "best 9 = 7"));
        lines(set, "the least number as bits, not the least HIDE", Sentences.both(guessed("0 9 4", "0 9 3", "0 9 3",
            "0 9 2"), "best 4 = 1", "best 5 = 10", "best 6 = 6", "best 7 = 3", "best 8 = 14", "best 9 = 11"));
        lines(set, "all twelve", Sentences.both(guessed("0 9 8", "0 9 8", "0 9 8", "0 9 8", "0 9 8", "0 9 8", "0 9 8",
            "0 9 8", "0 9 8", "0 9 8", "0 9 8", "0 9 8"), "best 96 = 4095", "best 95 = 2047", "best 88 = 2047",
            "best 87 = 1023"));
    }

    /** HIDES as told, and one WORD of COVE 0 that is RIGHT: those of COVE 0 have a GUESS of 10. */
    private static String[] guessed(String... hides) {
        List<String> all = new ArrayList<>();
        for (String hide : hides) {
            all.add("hide " + hide);
        }
        all.addAll(List.of("boat 0 9 0 15", "load 0 1", "word 0 1 0", "nights 1 = 1", "count 5 = 1"));
        return all.toArray(new String[0]);
    }

    private static void game() {
        String ends = "THE GAME with K watchers (0 .. 6) and a FINE (1 .. 99)";
        lines(ends, "K -1, 0, 6 and 7", "value -1 1 0 = 4000000000000000004", "value 0 1 0 = 10", "value 6 1 0 = -1",
            "value 7 1 0 = 4000000000000000006");
        lines(ends, "FINE 0, 1, 99 and 100", "value 6 0 0 = 4000000000000000004", "value 6 1 0 = -1",
            "value 6 99 0 = -99", "value 6 100 0 = 4000000000000000006");
        String value = "THE VALUE is the least v, no less than minus FINE, so that there are such chances with which "
            + "no COVE gains more than v";
        lines(value, "K 0: the greatest WORTH, whatever the FINE", "cove 3 3 99", "cove 4 3 1", "value 0 1 0 = 99",
            "value 0 1 1 = 1", "value 0 99 0 = 99", "value 0 99 1 = 1");
        lines(value, "K 6: minus FINE, whatever the WORTHS", "cove 3 3 99", "cove 4 3 1", "value 6 1 0 = -1",
            "value 6 1 1 = 1", "value 6 50 0 = -50", "value 6 50 1 = 1", "value 6 99 0 = -99", "value 6 99 1 = 1");
        // All alike: 10 less K by 6 of (10 and FINE).
        lines(value, "all alike, FINE 1", "value 1 1 0 = 49", "value 1 1 1 = 6", "value 2 1 0 = 19", "value 2 1 1 = 3",
            "value 3 1 0 = 9", "value 3 1 1 = 2", "value 4 1 0 = 8", "value 4 1 1 = 3", "value 5 1 0 = 5",
            "value 5 1 1 = 6");
        lines(value, "just 0", "value 3 10 0 = 0", "value 3 10 1 = 1");
        // One watcher at two COVES of 90 leaves 40 with FINE 10; four of 41 leave (4/5 and 164/51) by (1/50 and 4/51).
        String[] two = {"cove 0 3 90", "cove 1 3 90"};
        lines(value, "the others' WORTH is just what the first two leave", Sentences.both(two, "cove 2 3 40",
            "cove 3 3 40", "cove 4 3 40", "cove 5 3 40", "value 1 10 0 = 40", "value 1 10 1 = 1", "chance 0 1 10 0 = 1",
            "chance 0 1 10 1 = 2", "chance 5 1 10 0 = 0", "chance 5 1 10 1 = 1"));
        lines(value, "the others' WORTH is 1 less", Sentences.both(two, "cove 2 3 39", "cove 3 3 39", "cove 4 3 39",
            "cove 5 3 39", "value 1 10 0 = 40", "value 1 10 1 = 1", "chance 5 1 10 0 = 0"));
        lines(value, "the others' WORTH is 1 more", Sentences.both(two, "cove 2 3 41", "cove 3 3 41", "cove 4 3 41",
            "cove 5 3 41", "value 1 10 0 = 10240", "value 1 10 1 = 251"));
        // So many COVES of 50 with one watcher and FINE 10: 50 less 60 by how many they are; the others of 1 need none.
        int[] values = {20, 30, 35, 38, 40};
        for (int many = 2; many <= 6; many++) {
            int last = many;
            test(value, many + " COVES are watched", () -> {
                Run run = S.run();
                for (int c = 0; c < 6; c++) {
                    run.lines("cove " + c + " 3 " + (c >= 6 - last ? 50 : 1));
                }
                run.due("value 1 10 0", values[last - 2]).due("value 1 10 1", 1).due("value 0 10 0", 50);
                run.due("chance 5 1 10 0", 1).due("chance 5 1 10 1", last).due("chance 0 1 10 0", last == 6 ? 1 : 0);
            });
        }
        String all = "each COVE is watched with a chance p (0 .. 1), all together K at most";
        for (int k = 0; k <= 6; k++) {
            int watchers = k;
            test(all, "K " + k, () -> chancesAreTogether(watchers));
        }
        String chance = "(WORTH less v) by (WORTH and FINE), 0 if that is below 0";
        lines(chance, "WORTH is just v", "chance 0 0 10 0 = 0", "chance 0 0 10 1 = 1");
        lines(chance, "below 0", "cove 0 3 11", "chance 1 0 10 0 = 0", "chance 1 0 10 1 = 1", "chance 0 0 10 0 = 0");
        lines(chance, "1 with K 6", "chance 0 6 1 0 = 1", "chance 0 6 1 1 = 1", "chance 5 6 99 0 = 1",
            "chance 5 6 99 1 = 1");
        lines(chance, "all alike: K by 6", "chance 0 1 7 0 = 1", "chance 0 1 7 1 = 6", "chance 5 2 7 0 = 1",
            "chance 5 2 7 1 = 3", "chance 5 3 7 1 = 2", "chance 5 4 7 0 = 2", "chance 5 4 7 1 = 3",
            "chance 5 5 7 0 = 5", "chance 5 5 7 1 = 6");
    }

    /** The least VALUE leaves no watcher idle, unless there is none. */
    private static void chancesAreTogether(int k) {
        int[] worths = {7, 80, 33, 20, 11, 95};
        Run run = S.run();
        for (int c = 0; c < 6; c++) {
            run.lines("cove " + c + " 3 " + worths[c]);
        }
        BigInteger above = BigInteger.ZERO;
        BigInteger below = BigInteger.ONE;
        for (int c = 0; c < 6; c++) {
            long chance = run.ask("chance " + c + " " + k + " 5 0");
            long line = run.ask("chance " + c + " " + k + " 5 1");
            S.check.holds("CHANCE of COVE " + c + " of 0 to 1, " + chance + " by " + line,
                chance >= 0 && chance <= line);
            above = above.multiply(BigInteger.valueOf(line)).add(below.multiply(BigInteger.valueOf(chance)));
            below = below.multiply(BigInteger.valueOf(line));
        }
        S.check.holds("all together " + k, above.equals(below.multiply(BigInteger.valueOf(k))));
    }

    private static void spans() {
        String seasons = "SPANS: of SEASONS 0 .. 33 (30 NIGHTS each: NIGHT by 30)";
        lines(seasons, "SEASON 0 and 33 are there, -1 and 34 are not", "used 0 1 1 1 = 1", "used 33 1 1 1 = 1",
            "used -1 1 1 1 = -1", "used 34 1 1 1 = -1", "landed 0 0 = 0", "landed 33 0 = 0", "landed -1 0 = -1",
            "landed 34 0 = -1");
        int[][] rows = {{1, 0}, {29, 0}, {30, 1}, {59, 1}, {60, 2}, {989, 32}, {990, 33}, {1000, 33}};
        for (int[] row : rows) {
            test(seasons, "NIGHT " + row[0], () -> {
                Run run = S.run().lines("hide 0 9 1");
                run.lines(row[0] > 1 ? "nights " + (row[0] - 1) : "count 0", "boat 0 9 0 15", "load 0 4",
                    "nights 1 = 1");
                for (int season = 0; season < 34; season++) {
                    run.due("landed " + season + " 2", season == row[1] ? 4 : 0);
                }
                run.lines("search 0 = 4");
                for (int season = 0; season < 34; season++) {
                    run.due("landed " + season + " 3", season == row[1] ? 4 : 0);
                }
            });
        }
        String used = "is told what was USED, least and most, and what came by LAW (0 .. 100000 each)";
        lines(used, "0 and 100000 are taken", "used 5 0 0 0 = 1", "used 5 0 100000 0 = 1", "landed 5 0 = 0",
            "landed 5 1 = 100000", "used 5 100000 100000 0 = 1", "landed 5 0 = 100000",
            "used 5 100000 100000 100000 = 1", "landed 5 0 = 0", "landed 5 1 = 0", "used 5 100000 100000 99999 = 1",
            "landed 5 0 = 1");
        lines(used, "-1 and 100001 are not", "used 5 -1 0 0 = -4", "used 5 -1 -1 0 = -4", "used 5 0 0 -1 = -4",
            "used 5 0 100001 0 = -6", "used 5 100001 100001 0 = -6", "used 5 0 0 100001 = -6");
        String landed = "LANDED, least and most: USED less what came by law, less casks that lay SEIZED of that "
            + "SEASON's LOTS (they were not used), not below 0";
        String[] seized = {"stand 0 1", "boat 0 9 0 15", "load 0 4", "nights 1 = 1"};
        lines(landed, "1, 0 and not -1", Sentences.both(seized, "used 0 9 9 4 = 1", "landed 0 0 = 1",
            "used 0 8 9 4 = 1", "landed 0 0 = 0", "landed 0 1 = 1", "used 0 7 8 4 = 1", "landed 0 0 = 0",
            "landed 0 1 = 0"));
        lines(landed, "what came by law alone is more", "used 0 3 4 5 = 1", "landed 0 0 = 0", "landed 0 1 = 0");
        lines(landed, "what was SEIZED in another SEASON is left", Sentences.both(seized, "used 1 9 9 4 = 1",
            "landed 1 0 = 5"));
        lines(landed, "what lies in HIDES is left, what was found there is not", "hide 0 9 1", "boat 0 9 0 15",
            "load 0 4", "nights 1 = 1", "used 0 9 20 0", "landed 0 0 = 9", "landed 0 1 = 20", "search 0 = 4",
            "landed 0 0 = 5", "landed 0 1 = 16");
        String held = "HELD: casks of that SEASON's LOTS that lie in HIDES.";
        lines(held, "none, some, and none again", "landed 0 2 = 0", "hide 0 9 1", "boat 0 9 0 15", "load 0 4",
            "nights 1 = 1", "landed 0 2 = 4", "landed 1 2 = 0", "search 0 = 4", "landed 0 2 = 0", "landed 0 3 = 4");
        lines(held, "what was SEIZED is not HELD", Sentences.both(seized, "landed 0 2 = 0", "landed 0 3 = 4"));
    }

    private static void refusals() {
        String nobody = "-1 NOBODY: no such COVE, TABLE, BOAT, HIDE, LOT, INFORMER, SEASON.";
        lines(nobody, "each of them, on a new object", "watched 6 = -1", "lose 4 = -1", "boatOf 0 0 = -1",
            "load 0 0 = -1", "hideOf 0 0 = -1", "search 0 = -1", "lotOf 0 0 = -1", "weight 6 0 = -1",
            "landed 34 0 = -1", "count 11 = 9", "count 12 = 0");
        lines("-2 OTHER: what.", "each of them", "boat 0 1 0 0", "hide 0 1 1", "belief 0 0 2 = -2", "weight 0 2 = -2",
            "landed 0 4 = -2", "boatOf 0 9 = -2", "hideOf 0 3 = -2", "coins 8 = -2", "count 12 = 6", "count 11 = 0");
        lines("-3 STATE: it is not as told.", "each of them", "word 0 1 0", "word 0 1 0 = -3", "used 0 1 0 0 = -3",
            "count 13 = 2");
        lines("-4 BELOW: a number below the least.", "counted", "price -1 = -4", "draws -1 = -4", "count 14 = 2");
        lines("-5 MISSING: a TABLE that is.", "counted", "put 0 0 0 = -5", "copy 0 0 0 0 0 = -5", "count 15 = 2");
        lines("-6 ROOM: a number above the greatest, no room.", "counted", "price 1000 = -6", "boat 0 1 0 0",
            "load 0 2 = -6", "count 16 = 2");
        lines("-7 BEYOND: places that a row doesn't have.", "counted", "row 0 1", "put 0 1 0 = -7",
            "copy 0 2 0 0 0 = -7", "count 17 = 2");
        String less = "Of answers that may be below 0 otherwise than -9 as told REFUSALS are 2000000000 less them "
            + "(-1 as 2000000001).";
        lines(less, "lead may answer -1, so -1 is told as 2000000001", "lead 0 -1 = -1", "lead 6 -1 = 2000000001",
            "lead 0 4 = 2000000001", "lead 0 -2 = 2000000001", "count 11 = 3");
        lines(less, "lotOf may answer -9 as told, so -1 stays -1", "stand 0 1", "boat 0 1 0 15", "load 0 1",
            "nights 1 = 1", "lotOf 0 5 = -9", "lotOf 1 5 = -1", "lotOf 0 6 = -2");
        test("nothing changes but how many there were", "200 of one number: each is counted", () -> {
            Run run = S.run();
            for (int i = 1; i <= 200; i++) {
                run.due("price -1", -4);
            }
            run.lines("count 14 = 200", "count 11 = 0", "count 16 = 0", "price 0 = 0");
        });
    }
}
