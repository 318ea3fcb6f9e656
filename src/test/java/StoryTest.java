import java.math.BigInteger;

/**
 * The sentences that name no boundary: what the document is about ("What it is"), what follows what in a NIGHT
 * ("Terms"), and the numbers that are told of what is new ("Promise 10", 12, 18, 19 and 27).
 */
public final class StoryTest {
    private static final Sentences S = new Sentences();
    private static final String[] ALL_GUARDED = Sentences.each(5, "stand # 1 = 0");
    /** On NIGHT 1 COVES 0 to 5 have a TIDE of 7, 12, 7, 2, 3 and 8, so one of DRAUGHT 15 has COVE 1 alone. */
    private static final String[] DEEP_BOAT = {"boat 15 9 0 15 = 0", "load 0 1 = 1"};

    public static void main(String[] args) {
        whatItIs();
        calls();
        ledCoves();
        lots();
        watchers();
        nights();
        openCoves();
        counting();
        sights();
        lawInForce();
        game();
        answers();
        numbers();
        seasons();
        S.finish();
    }

    private static void lines(String words, String side, String... lines) {
        S.lines("Terms", words, side, lines);
    }

    private static void about(String words, String side, String... lines) {
        S.lines("What it is", words, side, lines);
    }

    private static void whatItIs() {
        String boats = "A watch on a coast of coves: boats that choose by moon, tide and what they saw,";
        about(boats, "the moon: LIGHT 14 keeps it, LIGHT 13 does not", "boat 0 9 0 13 = 0", "hide 0 9 1", "load 0 1",
            "nights 1 = 0", "count 8 = 14", "nights 1 = 1", "count 8 = 13", "lotOf 0 2 = 2");
        about(boats, "the tide: the only COVE that is deep enough", Sentences.both(DEEP_BOAT, "hide 1 9 1",
            "nights 1 = 1", "lotOf 0 3 = 1"));
        about(boats, "what they saw: not where it met one, nor where it saw one", "stand 0 1", "stand 1 1",
            "hide 0 9 1", "hide 1 9 1", "hide 2 9 1", "boat 0 9 10 15", "load 0 1", "nights 1 = 0", "stand 0 0",
            "stand 1 0", "nights 1 = 1", "lotOf 0 3 = 2");
        String watchers = "watchers by orders and by draws that can't be foreseen,";
        about(watchers, "by orders", "stand 3 2", "nights 1", "watched 3 = 2", "watched 2 = 0");
        // 16838, the first draw from SEED 1, is 2 modulo 6; from SEED 0 it is 0; 38526 from 1103527590 is 0.
        String[] shares = Sentences.each(5, "share # 1 = 0");
        about(watchers, "by a draw from SEED 1", Sentences.both(shares, "draws 1", "nights 1", "watched 2 = 1",
            "watched 0 = 0"));
        about(watchers, "by a draw from SEED 0", Sentences.both(shares, "seed 0", "draws 1", "nights 1",
            "watched 0 = 1", "watched 2 = 0"));
        about("the shares of a watch that leave runners least,", "more where the WORTH is more", "cove 0 3 40",
            "cove 1 3 30", "value 1 10 0 = 110", "value 1 10 1 = 9", "chance 0 1 10 0 = 5", "chance 0 1 10 1 = 9",
            "chance 1 1 10 0 = 4", "chance 1 1 10 1 = 9");
        about("words of informers weighed by how often they were right,", "RIGHT, WRONG and not PROVED", "hide 0 9 1",
            "boat 0 9 0 15", "load 0 1", "word 0 1 0", "word 1 1 1", "word 0 9 3", "word 1 9 4", "word 2 9 5",
            "nights 1 = 1", "belief 3 9 0 = 2", "belief 3 9 1 = 3", "belief 4 9 0 = 1", "belief 4 9 1 = 3",
            "belief 5 9 0 = 1", "belief 5 9 1 = 2");
        about("hides searched by worth,", "that of the greater GUESS, of as many hours", "hide 1 9 2", "hide 0 9 2",
            "boat 0 9 0 15", "load 0 1", "word 0 1 0", "nights 1 = 1", "best 2 = 2", "search 1 = 1", "hideOf 1 1 = 5");
        about("seizures parted by the law of the night,", "a LAW that was not yet, then a LAW", Sentences.both(
            ALL_GUARDED, "price 100", "law 40 0 2", "boat 0 9 0 15", "load 0 1", "nights 1 = 1", "coins 0 = 0",
            "coins 1 = 100", "load 0 1", "nights 1 = 1", "coins 0 = 40", "coins 1 = 160"));
        about("casks led from boat to hide,", "from aboard to where they lie", "boat 0 9 0 15", "hide 0 9 1",
            "load 0 7 = 7", "boatOf 0 0 = 7", "hideOf 0 0 = 0", "nights 1 = 1", "boatOf 0 0 = 0", "hideOf 0 0 = 7",
            "lotOf 0 1 = 7");
        about("and what got in told as spans.", "from the least to the most", "used 0 50 60 10 = 1", "landed 0 0 = 40",
            "landed 0 1 = 50");
    }

    /** Run keeps to the 512 calls that are promised, so the object is asked without it. */
    private static void calls() {
        String words = "An object is used for at most 512 calls after it has been made; what later calls answer is "
            + "free.";
        S.test("What it is", words, "the 512th is as promised, later ones end all the same", () -> {
            CoastWatch watch = new CoastWatch();
            for (int call = 1; call <= 511; call++) {
                S.check.due("price " + call, watch.price(call), call - 1);
            }
            S.check.due("price 0", watch.price(0), 511);
            for (int call = 513; call <= 700; call++) {
                watch.boat(0, 60, 0, 15);
                watch.load(call % 8, 1);
                watch.hide(call % 6, 200, 1);
                watch.nights(1);
            }
            S.check.holds("an end of call 700", true);
        });
    }

    private static void ledCoves() {
        String words = "A COVE may be led by a TABLE:";
        lines(words, "two by one TABLE, as long as they are", "row 0 2", "put 0 0 4", "put 0 1 9", "lead 1 0 = -1",
            "lead 4 0 = -1", "tide 1 0 = 4", "tide 4 0 = 4", "tide 1 7 = 9", "lead 1 -1 = 0", "tide 1 0 = 5",
            "tide 4 1 = 9", "put 0 1 2 = 9", "tide 4 1 = 2");
        lines(words, "one TABLE after another", "row 0 1", "row 3 1", "put 0 0 4", "put 3 0 6", "lead 2 0 = -1",
            "tide 2 0 = 4", "lead 2 3 = 0", "tide 2 0 = 6", "lead 2 -1 = 3", "tide 2 0 = 10");
        lines(words, "it is led that way for BOATS too", Sentences.both(DEEP_BOAT, "row 0 2", "put 0 1 20", "row 1 1",
            "lead 4 0", "lead 1 1", "hide 1 9 1", "hide 4 9 1", "nights 1 = 1", "lotOf 0 3 = 4"));
    }

    private static void lots() {
        String words = "LOTS have numbers from 0 on (100 at most): casks of one BOAT, the NIGHT, the COVE, and lie:";
        lines(words, "two BOATS at one HIDE in one NIGHT: two LOTS", "hide 0 60 1", "boat 0 9 0 15", "boat 0 9 0 15",
            "load 0 4", "load 1 5", "nights 1 = 2", "lotOf 0 0 = 0", "lotOf 0 1 = 4", "lotOf 0 2 = 1", "lotOf 0 3 = 0",
            "lotOf 1 0 = 1", "lotOf 1 1 = 5", "lotOf 1 2 = 1", "lotOf 1 3 = 0", "hideOf 0 0 = 9");
        lines(words, "one BOAT in two NIGHTS: two LOTS", "cove 3 3 11", "hide 3 60 1", "boat 0 9 0 15", "load 0 4",
            "nights 1 = 1", "load 0 3", "nights 1 = 1", "lotOf 0 0 = 0", "lotOf 0 1 = 4", "lotOf 0 2 = 1",
            "lotOf 0 3 = 3", "lotOf 1 0 = 0", "lotOf 1 1 = 3", "lotOf 1 2 = 2", "lotOf 1 3 = 3");
        lines(words, "a LOT stays as it was when later ones come", "hide 0 60 1", "boat 0 9 0 15", "boat 0 9 0 15",
            "load 1 4", "nights 1 = 1", "cove 2 3 99", "stand 2 1", "load 0 8", "nights 1 = 1", "lotOf 1 3 = 2",
            "lotOf 1 4 = 1", "lotOf 0 0 = 1", "lotOf 0 1 = 4", "lotOf 0 2 = 1", "lotOf 0 3 = 0", "lotOf 0 4 = 0",
            "lotOf 0 5 = 0");
    }

    private static void watchers() {
        String words = "WATCHERS at a COVE on a NIGHT: STANDING ones (0 .. 9 for each COVE; 0 at first) and those that "
            + "are DRAWN: N (0 .. 9; 0 at first) draws";
        lines(words, "both count together", "stand 0 2", "share 0 1", "draws 3", "boat 0 9 49 15", "boat 0 9 50 15",
            "load 0 1", "load 1 1", "nights 1 = 1", "watched 0 = 5", "lotOf 0 0 = 0", "boatOf 1 1 = 1");
        lines(words, "drawn ones alone", "share 0 1", "draws 3", "boat 0 9 29 15", "boat 0 9 30 15", "load 0 1",
            "load 1 1", "nights 1 = 1", "watched 0 = 3", "lotOf 0 0 = 0", "boatOf 1 1 = 1");
        lines(words, "those of a NIGHT are gone in the next", "share 2 1", "draws 3", "nights 1", "watched 2 = 3",
            "nights 1", "watched 2 = 3", "draws 1", "nights 1", "watched 2 = 1", "share 2 0", "nights 1",
            "watched 2 = 0");
        // The draws from SEED 1 are 16838, 38526, 10113: 2, 0 and 3 modulo 6.
        lines(words, "each NIGHT they are drawn anew", Sentences.both(Sentences.each(5, "share # 1 = 0"), "draws 1",
            "nights 1", "watched 2 = 1", "nights 1", "watched 2 = 0", "watched 0 = 1", "nights 1", "watched 0 = 0",
            "watched 3 = 1"));
    }

    private static void nights() {
        String night = "A NIGHT passes: NIGHT is 1 more.";
        lines(night, "one, then several", "count 0 = 0", "nights 1", "count 0 = 1", "nights 3", "count 0 = 4",
            "nights 6", "count 0 = 10");
        lines(night, "what comes in it is of the new one", "nights 14", "boat 0 9 0 0", "hide 0 9 1", "load 0 1",
            "count 8 = 1", "nights 1 = 1", "count 8 = 0", "lotOf 0 2 = 15");
        lines(night, "its WORDS are of the new one", "word 0 15 0", "nights 14", "count 6 = 0", "nights 1",
            "count 6 = 1");
        String drawn = "1 WATCHERS are DRAWN.";
        lines(drawn, "ahead of the BOATS of that NIGHT", "share 0 1", "draws 1", "hide 0 9 1", "boat 0 9 9 15",
            "load 0 1", "nights 1 = 1", "lotOf 0 4 = 1");
        lines(drawn, "though no BOAT goes", "share 0 1", "draws 2", "nights 1", "watched 0 = 2",
            "seed 0 = -1770082073");
        lines(drawn, "in each NIGHT of one call", "share 0 1", "draws 1", "nights 2", "watched 0 = 1",
            "seed 0 = -1770082073");
        lines(drawn, "once for all BOATS", "share 5 1", "draws 1", "boat 0 9 0 15", "boat 0 9 0 15", "boat 0 9 0 15",
            "load 0 1", "load 1 1", "load 2 1", "nights 1", "watched 5 = 1", "seed 0 = 1103527590");
        String boats = "2 BOATS, by numbers, with CASKS:";
        lines(boats, "ahead of the FEARS of that NIGHT", "stand 0 1", "boat 0 9 0 15", "load 0 1", "nights 1 = 1",
            "boatOf 0 3 = 24");
        // FEAR of COVE 1 is still 1 when the fifth NIGHT begins, and 0 when the sixth does.
        lines(boats, "they fear what they feared when it began", "stand 1 1", "boat 0 9 0 15", "load 0 1",
            "nights 1 = 0", "boatOf 0 4 = 4", "stand 1 0", "load 0 1", "hide 1 9 1", "cove 1 3 99", "nights 4 = 0",
            "boatOf 0 4 = 0", "nights 1 = 1", "lotOf 0 3 = 1", "lotOf 0 2 = 6");
        String proved = "4 WORDS of that NIGHT are PROVED.";
        lines(proved, "behind its BOATS: what they brought makes them RIGHT", "hide 0 9 1", "boat 0 9 0 15", "load 0 1",
            "word 0 1 0", "nights 1 = 1", "count 5 = 1");
        lines(proved, "behind its BOATS: those are parted by the WORDS all the same", "price 10", "law 0 50 0",
            "stand 0 1", "boat 0 9 0 15", "load 0 1", "word 0 1 0", "nights 1 = 1", "coins 2 = 5", "weight 0 0 = 2");
        lines("3 All FEARS are 1 less, not below 0 (each NIGHT).", "so often as NIGHTS pass in one call", "stand 0 1",
            "boat 0 9 0 15", "load 0 1", "nights 1 = 1", "boatOf 0 3 = 24", "nights 20", "boatOf 0 3 = 4", "nights 20",
            "boatOf 0 3 = 0");
    }

    private static void openCoves() {
        String words = "of the COVES that are OPEN for it,";
        // A DRAUGHT of 10 has COVES 0, 1, 2 and 5 on NIGHT 1.
        lines(words, "the worthiest is shut", "cove 3 3 99", "boat 10 9 0 15", "hide 0 9 1", "hide 3 9 1", "load 0 1",
            "nights 1 = 1", "lotOf 0 3 = 0");
        lines(words, "those that it fears least are shut", Sentences.both(ALL_GUARDED, "row 0 1", "row 1 1",
            "put 1 0 20", "lead 0 1", "lead 1 1", "lead 2 0", "lead 3 0", "lead 4 0", "lead 5 0", "boat 20 9 99 15",
            "load 0 1", "nights 1 = 0", "boatOf 0 3 = 24", "boatOf 0 4 = 4", "nights 1 = 0", "boatOf 0 3 = 28",
            "boatOf 0 4 = 28", "boatOf 0 5 = 4", "boatOf 0 1 = 2"));
        lines(words, "for each BOAT its own", Sentences.both(DEEP_BOAT, "boat 0 9 0 15", "hide 0 9 1", "hide 1 9 1",
            "load 1 1", "nights 1 = 2", "lotOf 0 3 = 1", "lotOf 1 3 = 0"));
        lines(words, "what keeps one BOAT keeps no other", "boat 20 9 0 15", "boat 0 9 0 13", "boat 0 9 0 15",
            "load 0 1", "load 1 1", "load 2 1", "hide 0 9 1", "nights 1 = 1", "lotOf 0 0 = 2");
    }

    private static void counting() {
        String some = "If WATCHERS count there:";
        lines(some, "no HIDE gets them, though one has room", "stand 0 1", "hide 0 60 1", "boat 0 9 9 15",
            "boat 0 9 10 15", "load 0 3", "load 1 4", "nights 1 = 1", "hideOf 0 0 = 0", "lotOf 0 4 = 1",
            "boatOf 1 0 = 4", "boatOf 1 2 = 0");
        lines(some, "those of other COVES do not count", "stand 1 9", "stand 2 9", "stand 5 9", "hide 0 9 1",
            "boat 0 9 0 15", "load 0 1", "nights 1 = 1", "lotOf 0 4 = 0");
        lines(some, "for each BOAT as many", "stand 0 3", "boat 0 9 29 15", "boat 0 9 29 15", "boat 0 9 30 15",
            "load 0 1", "load 1 1", "load 2 1", "nights 1 = 2", "boatOf 2 1 = 1");
        String none = "If none count:";
        lines(none, "STRENGTH is not asked for, and none gets away", "hide 0 9 1", "boat 0 9 99 15", "boat 0 9 0 15",
            "load 0 3", "load 1 4", "nights 1 = 2", "boatOf 0 1 = 0", "boatOf 1 1 = 0", "lotOf 0 4 = 0",
            "lotOf 1 4 = 0", "boatOf 0 3 = 0");
        lines(none, "no COINS for what is hidden", "price 10", "law 50 20 0", "word 0 1 0", "hide 0 9 1",
            "boat 0 9 0 15", "load 0 3", "nights 1 = 1", "coins 0 = 0", "coins 1 = 0", "coins 2 = 0");
    }

    private static void sights() {
        String words = "A BOAT that goes sees WATCHERS (as many as are there)";
        lines(words, "one that gets away sees one who is bribed", "stand 0 1", "stand 1 1", "bribe 1 true",
            "boat 0 9 10 15", "load 0 1", "nights 1 = 0", "boatOf 0 1 = 1", "boatOf 0 4 = 4");
        lines(words, "one that goes home sees one who is drawn", "share 1 1", "draws 1", "boat 0 9 0 15", "load 0 1",
            "nights 1 = 0", "boatOf 0 2 = 1", "boatOf 0 4 = 4");
        lines(words, "each sees beside its own COVE", Sentences.both(DEEP_BOAT, "boat 0 9 0 15", "load 1 1",
            "stand 2 1", "nights 1 = 0", "boatOf 0 5 = 4", "boatOf 1 5 = 0"));
        lines(words, "one that stays, as none is OPEN for it or as LIGHT is above BOLD, sees none", Sentences.both(
            ALL_GUARDED, "boat 16 9 0 15", "boat 0 9 0 13", "load 0 1", "load 1 1", "nights 1 = 0", "boatOf 0 3 = 0",
            "boatOf 0 4 = 0", "boatOf 0 5 = 0", "boatOf 1 3 = 0", "boatOf 1 4 = 0"));
        lines(words, "two BOATS see the same ones", "stand 1 1", "boat 0 9 0 15", "boat 0 9 0 15", "load 0 1",
            "load 1 1", "nights 1 = 0", "boatOf 0 4 = 4", "boatOf 1 4 = 4");
    }

    private static void lawInForce() {
        String words = "SEIZED casks (each LOT by itself) are parted by the LAW in force:";
        lines(words, "on the shore the one of that NIGHT", Sentences.both(ALL_GUARDED, "price 100", "law 10 0 1",
            "law 20 0 2", "boat 0 9 0 15", "load 0 1", "nights 1 = 1", "coins 0 = 10", "load 0 1", "nights 1 = 1",
            "coins 0 = 30", "coins 1 = 170"));
        lines(words, "a LAW or a PRICE that comes later changes nothing", Sentences.both(ALL_GUARDED, "price 100",
            "law 10 0 0", "boat 0 9 0 15", "load 0 1", "nights 1 = 1", "law 90 0 1", "price 999", "nights 1 = 0",
            "coins 0 = 10", "coins 1 = 90"));
        lines(words, "several found in one HIDE: each LOT is cut by itself", "price 1", "law 50 0 0", "hide 0 9 1",
            "boat 0 9 0 15", "boat 0 9 0 15", "load 0 1", "load 1 3", "nights 1 = 2", "search 0 = 4", "coins 0 = 1",
            "coins 1 = 3");
    }

    private static void game() {
        String gain = "a runner who goes to a COVE gains its WORTH, but loses FINE if it is watched: (1 less p) WORTH "
            + "less p FINE.";
        String chance = "the CHANCE of a COVE is then the least that does:";
        int[][] coast = {{10, 10, 10, 10, 10, 10}, {7, 80, 33, 20, 11, 95}, {99, 98, 97, 96, 95, 94},
            {1, 1, 1, 1, 1, 99}, {40, 30, 10, 1, 10, 10}};
        for (int[] worths : coast) {
            for (int fine : new int[] {1, 10, 99}) {
                String side = "WORTHS from " + worths[0] + " to " + worths[5] + " by " + worths[1] + ", FINE " + fine;
                S.test("Terms", gain, side + ": no COVE gains more than VALUE", () -> gains(worths, fine, false));
                S.test("Terms", chance, side + ": with a chance above 0 it gains just that",
                    () -> gains(worths, fine, true));
            }
        }
    }

    /** With its CHANCE each COVE gains VALUE at most; the least that does leaves just VALUE, or is 0. */
    private static void gains(int[] worths, int fine, boolean just) {
        for (int k = 0; k <= 6; k++) {
            Run run = S.run();
            for (int c = 0; c < 6; c++) {
                run.lines("cove " + c + " 3 " + worths[c] + " = 1");
            }
            BigInteger valueAbove = asked(run, "value " + k + " " + fine + " 0");
            BigInteger valueBelow = asked(run, "value " + k + " " + fine + " 1");
            for (int c = 0; c < 6; c++) {
                BigInteger above = asked(run, "chance " + c + " " + k + " " + fine + " 0");
                BigInteger below = asked(run, "chance " + c + " " + k + " " + fine + " 1");
                // (1 less p) WORTH less p FINE, above and below the line of p.
                BigInteger gained = below.subtract(above).multiply(BigInteger.valueOf(worths[c]))
                    .subtract(above.multiply(BigInteger.valueOf(fine)));
                int than = gained.multiply(valueBelow).compareTo(valueAbove.multiply(below));
                boolean holds = just && above.signum() > 0 ? than == 0 : than <= 0;
                S.check.holds("what COVE " + c + " gains with K " + k, holds);
            }
        }
    }

    private static BigInteger asked(Run run, String call) {
        return BigInteger.valueOf(run.ask(call));
    }

    private static void answers() {
        lines("REFUSALS (the call answers the number, the first that fits in the order in which it tells them;",
            "each number", "watched 6 = -1", "coins 8 = -2", "used 0 1 0 0 = -3", "price -1 = -4", "put 0 0 0 = -5",
            "price 1000 = -6", "row 0 0 = 0", "put 0 0 0 = -7", "price 0 = 0", "watched 0 = 0");
    }

    private static void numbers() {
        String[] mixed = {"boat 0 1 0 0 = 0", "hide 0 1 1 = 0", "law 0 0 0 = 0", "word 0 1 0 = 0", "boat 21 1 0 0 = -6",
            "hide 0 0 1 = -4", "law 0 101 0 = -6", "word 0 1 0 = -3", "boat 0 1 0 0 = 1", "boat 0 1 0 0 = 2",
            "hide 5 1 1 = 1", "law 0 0 0 = 1", "law 0 0 0 = 2", "law 0 0 0 = 3", "word 0 1 1 = 1"};
        String side = "each kind has its own, and a refused one takes none";
        S.lines("Promise 10", "A BOAT: its number.", side, Sentences.both(mixed, "boat 0 1 0 0 = 3", "count 1 = 4"));
        S.lines("Promise 12", "A HIDE: its number.", side, Sentences.both(mixed, "hide 0 1 1 = 2", "count 2 = 3"));
        S.lines("Promise 18", "A LAW: its number.", side, Sentences.both(mixed, "law 0 0 0 = 4", "count 7 = 5"));
        S.lines("Promise 19", "A WORD: its number.", side, Sentences.both(mixed, "word 0 1 2 = 2", "count 4 = 3"));
        S.lines("Promise 19", "A WORD: its number.", "WORDS that are PROVED keep theirs", "word 0 1 0 = 0",
            "word 1 1 0 = 1", "nights 2", "word 0 3 0 = 2", "count 4 = 3");
    }

    private static void seasons() {
        String words = "A SEASON's USED, least and most, and by LAW: 1.";
        S.lines("Promise 27", words, "told again: the later ones stand, of that SEASON alone", "used 2 5 9 1 = 1",
            "used 3 50 90 10 = 1", "landed 2 0 = 4", "landed 2 1 = 8", "landed 3 0 = 40", "used 2 6 7 2 = 1",
            "landed 2 0 = 4", "landed 2 1 = 5", "landed 3 0 = 40", "landed 3 1 = 80", "landed 1 1 = 0");
        S.lines("Promise 27", words, "of each of the 34", Sentences.both(Sentences.each(33, "used # # 100 0 = 1"),
            Sentences.each(33, "landed # 0 = #", "landed # 1 = 100")));
    }
}
