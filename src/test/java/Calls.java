import java.util.List;

/** Every call of the face that refuses something, in each story that bounds it otherwise. */
final class Calls {
    private static final int NOBODY = Call.NOBODY;
    private static final int OTHER = Call.OTHER;
    private static final int STATE = Call.STATE;
    private static final int BELOW = Call.BELOW;
    private static final int MISSING = Call.MISSING;
    private static final int ROOM = Call.ROOM;
    private static final int BEYOND = Call.BEYOND;
    private static final long GAME = 4000000000000000000L;

    static final List<Call> ALL = List.of(
        begun(3, "-1; -4; -6.", "cove", NOBODY, BELOW, ROOM)
            .nobody("COVE", 0, 5, 2).number("DEPTH", 0, 9, 7).number("WORTH", 1, 99, 60),
        begun(4, "-1; -4; -6.", "row", NOBODY, BELOW, ROOM)
            .nobody("TABLE", 0, 3, 0).number("n", 0, 30, 2),
        begun(5, "-1.", "lose", NOBODY)
            .nobody("TABLE", 0, 3, 1),
        begun(6, "-1; -5; -7; -4; -6.", "put", NOBODY, MISSING, BEYOND, BELOW, ROOM)
            .nobody("TABLE", 0, 3, 0).but(3, MISSING).but(2, BEYOND)
            .range("place", 0, 2, 1, BEYOND, BEYOND).number("the number", 0, 20, 8),
        begun(7, "-1; -5 (t, u); -7", "copy", NOBODY, MISSING, BEYOND)
            .nobody("TABLE t", 0, 3, 0).but(3, MISSING).but(2, BEYOND)
            .range("i", 0, 1, 1, BEYOND, BEYOND)
            .nobody("TABLE u", 0, 3, 1).but(3, MISSING).but(2, BEYOND)
            .range("j", 0, 3, 1, BEYOND, BEYOND)
            .range("n", 0, 2, 2, BEYOND, BEYOND),
        begun(8, "Refused as told: -1.", "lead", NOBODY).toldFrom(2000000000L)
            .nobody("COVE", 0, 5, 2).nobody("TABLE", -1, 3, 1),
        begun(9, "-1; -4; -6.", "tide", NOBODY, BELOW, ROOM)
            .nobody("COVE", 0, 5, 2).number("NIGHT", 0, 1000, 4),
        begun(10, "-4; -6 (8, too).", "boat", BELOW, ROOM)
            .number("DRAUGHT", 0, 20, 9).number("HOLD", 1, 60, 30).number("STRENGTH", 0, 99, 20)
            .number("BOLD", 0, 15, 10),
        full(10, "-4; -6 (8, too).", "boat", BELOW, ROOM)
            .number("DRAUGHT", 0, 20, 9).number("HOLD", 1, 60, 30).number("STRENGTH", 0, 99, 20)
            .number("BOLD", 0, 15, 10),
        begun(11, "-1; -4 below 0; -6 above its HOLD.", "load", NOBODY, BELOW, ROOM)
            .nobody("BOAT", 0, 1, 0).number("CASKS", 0, 18, 3),
        begun(12, "-1 the COVE; -4; -6 (12, too).", "hide", NOBODY, BELOW, ROOM)
            .nobody("COVE", 0, 5, 1).number("ROOM", 1, 200, 40).number("COST", 1, 20, 4),
        full(12, "-1 the COVE; -4; -6 (12, too).", "hide", NOBODY, BELOW, ROOM)
            .nobody("COVE", 0, 5, 1).number("ROOM", 1, 200, 40).number("COST", 1, 20, 4),
        begun(13, "-1; -4; -6.", "stand", NOBODY, BELOW, ROOM)
            .nobody("COVE", 0, 5, 3).number("STANDING ones", 0, 9, 4),
        begun(14, "-1.", "bribe", NOBODY)
            .nobody("COVE", 0, 5, 3).flag("on"),
        begun(15, "-1; -4; -6.", "share", NOBODY, BELOW, ROOM)
            .nobody("COVE", 0, 5, 3).number("SHARE", 0, 99, 40),
        begun(16, "-4; -6.", "draws", BELOW, ROOM)
            .number("N", 0, 9, 4),
        begun(17, "-4; -6.", "price", BELOW, ROOM)
            .number("PRICE", 0, 999, 500),
        begun(18, "-4 below 0, a NIGHT ahead of now; -6 parts above 100 together, NIGHT above 1000, 20.", "law",
            BELOW, ROOM)
            .number("part of the CREW", 0, 60, 30).number("part of the INFORMER", 0, 70, 40)
            .number("NIGHT", 3, 1000, 5),
        full(18, "-4 below 0, a NIGHT ahead of now; -6 parts above 100 together, NIGHT above 1000, 20.", "law",
            BELOW, ROOM)
            .number("part of the CREW", 0, 60, 30).number("part of the INFORMER", 0, 70, 40)
            .number("NIGHT", 0, 1000, 5),
        begun(19, "-1; -4 the NIGHT is not behind now; -6 above 1000, 60; -3 it was told by that one.", "word",
            NOBODY, BELOW, ROOM, STATE)
            .nobody("INFORMER", 0, 5, 3).number("NIGHT", 4, 1000, 8).nobody("COVE", 0, 5, 5),
        full(19, "-1; -4 the NIGHT is not behind now; -6 above 1000, 60; -3 it was told by that one.", "word",
            NOBODY, BELOW, ROOM, STATE)
            .nobody("INFORMER", 0, 5, 3).number("NIGHT", 1, 1000, 8).nobody("COVE", 0, 5, 5),
        begun(20, "-4 below 1; -6 above 1000 in all.", "nights", BELOW, ROOM)
            .number("n", 1, 997, 2),
        last(20, "-4 below 1; -6 above 1000 in all.", "nights", BELOW, ROOM)
            .number("n", 1, 1000, 1).always(ROOM),
        begun(21, "-1.", "search", NOBODY)
            .nobody("HIDE", 0, 2, 1),
        begun(22, "-4; -6.", "best", BELOW, ROOM)
            .number("hours", 0, 100, 8),
        begun(23, "-1; -4; -6 NIGHT 0 .. 1000; -2 another part.", "belief", NOBODY, BELOW, ROOM, OTHER)
            .nobody("COVE", 0, 5, 5).number("NIGHT", 0, 1000, 9).other("part", 0, 1, 1),
        begun(24, "-1; -2.", "weight", NOBODY, OTHER)
            .nobody("INFORMER", 0, 5, 1).other("part", 0, 1, 1),
        begun(25, "-4 (K, FINE); -6; -2.", "value", BELOW, ROOM, OTHER).toldFrom(GAME)
            .number("K", 0, 6, 2).number("FINE", 1, 99, 10).other("part", 0, 1, 1),
        begun(26, "-1; -4; -6; -2.", "chance", NOBODY, BELOW, ROOM, OTHER).toldFrom(GAME)
            .nobody("COVE", 0, 5, 1).number("K", 0, 6, 2).number("FINE", 1, 99, 10).other("part", 0, 1, 1),
        begun(27, "-1; -4; -6; -3 least above most.", "used", NOBODY, BELOW, ROOM, STATE)
            .nobody("SEASON", 0, 33, 0)
            .range("least", 0, 60, 50, BELOW, STATE).but(100000, STATE).but(100001, ROOM).but(Integer.MAX_VALUE, ROOM)
            .range("most", 50, 100000, 60, STATE, ROOM).but(-1, BELOW).but(Integer.MIN_VALUE, BELOW)
            .number("by LAW", 0, 100000, 5),
        begun(28, "-1; -2.", "landed", NOBODY, OTHER)
            .nobody("SEASON", 0, 33, 0).other("what", 0, 3, 1),
        begun(29, "-1; -2.", "lotOf", NOBODY, OTHER)
            .nobody("LOT", 0, 2, 1).other("what", 0, 5, 1),
        begun(30, "-1; -2.", "boatOf", NOBODY, OTHER)
            .nobody("BOAT", 0, 1, 1).other("what", 0, 8, 1),
        begun(31, "-1; -2.", "hideOf", NOBODY, OTHER)
            .nobody("HIDE", 0, 2, 1).other("what", 0, 2, 1),
        begun(32, "-1.", "watched", NOBODY)
            .nobody("COVE", 0, 5, 1),
        begun(33, "-2.", "coins", OTHER)
            .other("what", 0, 7, 1));

    private Calls() { }

    private static Call begun(int promise, String words, String name, Integer... order) {
        return Call.of(promise, words, name, Stories.BEGUN, order);
    }

    /** There is no room for one more. */
    private static Call full(int promise, String words, String name, Integer... order) {
        return Call.of(promise, words, name, Stories.FULL, order).always(ROOM);
    }

    private static Call last(int promise, String words, String name, Integer... order) {
        return Call.of(promise, words, name, Stories.LAST, order);
    }
}
