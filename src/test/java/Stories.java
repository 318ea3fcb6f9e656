import java.util.ArrayList;
import java.util.List;

/** What goes before a call that is refused. */
final class Stories {
    private Stories() { }

    /**
     * Three nights with boats, hides, watchers, words and laws of every kind. Of NIGHT 3: TABLES of 3, 5 and 0
     * numbers and a missing one; BOAT 0 with 12 casks in a HOLD of 30, BOAT 1 with 7 in one of 40; HIDES 0 to 2;
     * LOTS 0 to 2: found in HIDE 1, taken on the shore, in HIDE 1; LAWS 0 to 2; WORDS 0 to 5, two of NIGHT 9.
     */
    static final String[] BEGUN = {
        "seed 77 = 1", "cove 1 4 30", "cove 4 2 25", "row 0 3", "put 0 1 9", "row 1 5", "put 1 0 2", "put 1 4 11",
        "row 2 0", "lead 2 0", "boat 3 30 25 15", "boat 6 40 9 15", "load 0 12", "hide 0 30 3", "hide 1 40 4",
        "hide 4 50 5", "price 13", "law 20 10 0", "law 30 20 2", "law 25 5 4", "word 0 1 1", "word 1 1 1",
        "word 1 2 1", "word 2 3 4", "word 0 9 5", "word 3 9 5",
        "nights 1 = 1", "search 1 = 12", "stand 1 2", "load 1 20", "nights 1 = 1", "stand 1 1", "bribe 1 true",
        "stand 3 2", "load 0 5", "nights 1 = 1", "share 0 10", "share 4 7", "draws 2 = 0", "load 0 12 = 12",
        "load 1 7 = 7", "used 0 50 60 4",
    };

    /** As many BOATS, HIDES, LAWS and WORDS as there may be. */
    static final String[] FULL = full();

    /** The last NIGHT of all. */
    static final String[] LAST = {"nights 1000 = 0"};

    static final String[] NEW = {};

    private static String[] full() {
        List<String> lines = new ArrayList<>();
        for (int i = 0; i < 8; i++) {
            lines.add("boat 1 9 9 15 = " + i);
        }
        for (int i = 0; i < 12; i++) {
            lines.add("hide " + i % 6 + " 9 9 = " + i);
        }
        for (int i = 0; i < 20; i++) {
            lines.add("law " + i + " " + i + " 1000 = " + i);
        }
        for (int i = 0; i < 60; i++) {
            lines.add("word " + i % 6 + " " + (900 + i / 36) + " " + i / 6 % 6 + " = " + i);
        }
        return lines.toArray(new String[0]);
    }
}
