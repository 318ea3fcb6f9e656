import java.util.ArrayList;
import java.util.List;
import java.util.function.Consumer;
import java.util.function.ToLongFunction;

/**
 * Each refusal of each promise, where two fit the first, and that nothing but the count of that
 * refusal changes: a twin without the refused call answers all that follows alike.
 */
public final class RefusalsTest {
    private static final int LEAST = Integer.MIN_VALUE;
    private static final int MOST = Integer.MAX_VALUE;
    private static final Check CHECK = new Check();

    private static Consumer<CoastWatch> story = RefusalsTest::begun;

    public static void main(String[] args) {
        coves();
        tables();
        copies();
        boatsAndHides();
        watchers();
        lawsAndWords();
        nights();
        fractions();
        spans();
        questions();
        full();
        CHECK.finish();
    }

    /** Three nights with boats, hides, watchers, words and laws of every kind. */
    private static void begun(CoastWatch x) {
        x.seed(77);
        x.cove(1, 4, 30);
        x.cove(4, 2, 25);
        x.row(0, 3);
        x.put(0, 1, 9);
        x.row(1, 5);
        x.put(1, 4, 11);
        x.row(2, 0);
        x.lead(2, 0);
        x.boat(3, 30, 25, 15);
        x.boat(6, 40, 9, 15);
        x.load(0, 12);
        x.load(1, 20);
        x.hide(0, 30, 3);
        x.hide(1, 40, 4);
        x.hide(4, 50, 5);
        x.stand(1, 1);
        x.bribe(1, true);
        x.share(0, 10);
        x.share(4, 7);
        x.draws(2);
        x.price(13);
        x.law(20, 10, 0);
        x.law(30, 20, 2);
        x.word(0, 1, 1);
        x.word(1, 2, 0);
        x.word(0, 9, 5);
        x.nights(1);
        x.load(0, 8);
        x.load(1, 5);
        x.nights(2);
        x.load(0, 3);
        x.used(0, 50, 60, 5);
    }

    /** As many boats, hides, words, laws and nights as there may be. */
    private static void ended(CoastWatch x) {
        for (int i = 0; i < 8; i++) {
            x.boat(1, 9, 9, 9);
        }
        for (int i = 0; i < 12; i++) {
            x.hide(i % 6, 9, 9);
        }
        for (int i = 0; i < 20; i++) {
            x.law(i, i, 1000);
        }
        for (int i = 0; i < 60; i++) {
            x.word(i % 6, 1000, i / 6 % 6);
            x.word(i % 6, 999, i / 6 % 6);
        }
    }

    private static List<Long> told(CoastWatch x) {
        List<Long> answers = new ArrayList<>();
        for (int what = 0; what < 10; what++) {
            answers.add((long) x.count(what));
        }
        for (int what = 0; what < 8; what++) {
            answers.add((long) x.coins(what));
        }
        for (int c = 0; c < 6; c++) {
            answers.add((long) x.tide(c, 4));
            answers.add((long) x.watched(c));
            answers.add(x.belief(c, 9, 0));
            answers.add(x.chance(c, 2, 10, 0));
        }
        answers.add(x.value(2, 10, 0));
        for (int i = 0; i < 6; i++) {
            answers.add((long) x.weight(i, 1));
        }
        lots(x, answers);
        for (int what = 0; what < 4; what++) {
            answers.add((long) x.landed(0, what));
        }
        answers.add((long) x.best(7));
        return answers;
    }

    private static void lots(CoastWatch x, List<Long> answers) {
        for (int lot = 0; lot < Math.min(4, x.count(3)); lot++) {
            for (int what = 0; what < 6; what++) {
                answers.add((long) x.lotOf(lot, what));
            }
        }
        for (int b = 0; b < Math.min(3, x.count(1)); b++) {
            for (int what = 0; what < 9; what++) {
                answers.add((long) x.boatOf(b, what));
            }
        }
        for (int h = 0; h < Math.min(4, x.count(2)); h++) {
            answers.add((long) x.hideOf(h, 0));
            answers.add((long) x.hideOf(h, 1));
        }
    }

    /** What can be told only by a call that changes it. */
    private static List<Long> changed(CoastWatch x) {
        List<Long> answers = new ArrayList<>();
        answers.add((long) x.nights(Math.max(1, Math.min(7, 1000 - x.count(0)))));
        answers.add((long) x.search(0));
        for (int c = 0; c < 6; c++) {
            answers.add((long) x.stand(c, 1));
            answers.add((long) x.share(c, 1));
            answers.add((long) x.bribe(c, true));
            answers.add((long) x.lead(c, -1));
        }
        for (int t = 0; t < 4; t++) {
            answers.add((long) x.put(t, 1, 2));
            answers.add((long) x.put(t, 4, 2));
            answers.add((long) x.lose(t));
        }
        answers.add((long) x.draws(0));
        answers.add((long) x.price(0));
        answers.add((long) x.seed(0));
        return answers;
    }

    private static void refused(String call, int number, ToLongFunction<CoastWatch> asked) {
        refused(call, number, number, asked);
    }

    private static void refused(String call, int number, long answer, ToLongFunction<CoastWatch> asked) {
        CHECK.begin(call);
        CoastWatch x = new CoastWatch();
        CoastWatch twin = new CoastWatch();
        story.accept(x);
        story.accept(twin);
        CHECK.due(call, asked.applyAsLong(x), answer);
        for (int kind = 1; kind <= 7; kind++) {
            int more = kind == -number ? 1 : 0;
            CHECK.due("count(" + (10 + kind) + ")", x.count(10 + kind), twin.count(10 + kind) + more);
        }
        CHECK.holds("all that is told is as with the twin", told(x).equals(told(twin)));
        CHECK.holds("all that can be changed is as with the twin", changed(x).equals(changed(twin)));
        CHECK.holds("all that is told later is as with the twin", told(x).equals(told(twin)));
    }

    private static void coves() {
        for (int c : new int[] {-1, 6, LEAST, MOST}) {
            refused("cove of none", -1, x -> x.cove(c, -1, 100));
            refused("lead of none", -1, 2000000001L, x -> x.lead(c, 0));
            refused("tide of none", -1, x -> x.tide(c, -1));
            refused("tide of none", -1, x -> x.tide(c, 1001));
        }
        refused("DEPTH below, WORTH above", -4, x -> x.cove(0, -1, 100));
        refused("DEPTH above, WORTH below", -4, x -> x.cove(0, 10, 0));
        refused("DEPTH least", -4, x -> x.cove(0, LEAST, 1));
        refused("WORTH least", -4, x -> x.cove(5, 0, LEAST));
        refused("DEPTH 10", -6, x -> x.cove(0, 10, 5));
        refused("WORTH 100", -6, x -> x.cove(0, 5, 100));
        refused("lead by table 4", -1, 2000000001L, x -> x.lead(2, 4));
        refused("lead by table -2", -1, 2000000001L, x -> x.lead(2, -2));
        refused("lead by table least", -1, 2000000001L, x -> x.lead(2, LEAST));
        refused("tide of night -1", -4, x -> x.tide(0, -1));
        refused("tide of night least", -4, x -> x.tide(2, LEAST));
        refused("tide of night 1001", -6, x -> x.tide(0, 1001));
        refused("tide of night most", -6, x -> x.tide(2, MOST));
    }

    private static void tables() {
        for (int t : new int[] {-1, 4, LEAST, MOST}) {
            refused("row of none", -1, x -> x.row(t, -1));
            refused("row of none", -1, x -> x.row(t, 31));
            refused("lose of none", -1, x -> x.lose(t));
            refused("put of none", -1, x -> x.put(t, -1, -1));
        }
        refused("row of -1", -4, x -> x.row(0, -1));
        refused("row of least", -4, x -> x.row(3, LEAST));
        refused("row of 31", -6, x -> x.row(0, 31));
        refused("row of most", -6, x -> x.row(3, MOST));
        refused("put of a missing table", -5, x -> x.put(3, -1, -1));
        refused("put at -1", -7, x -> x.put(0, -1, -1));
        refused("put at 3 of 3", -7, x -> x.put(0, 3, 21));
        refused("put at 0 of 0", -7, x -> x.put(2, 0, 1));
        refused("put at most", -7, x -> x.put(0, MOST, 1));
        refused("put at least", -7, x -> x.put(0, LEAST, 1));
        refused("put of -1", -4, x -> x.put(0, 2, -1));
        refused("put of least", -4, x -> x.put(0, 1, LEAST));
        refused("put of 21", -6, x -> x.put(0, 1, 21));
        refused("put of most", -6, x -> x.put(0, 1, MOST));
    }

    private static void copies() {
        for (int t : new int[] {-1, 4, LEAST, MOST}) {
            refused("copy from none", -1, x -> x.copy(t, 0, 3, 0, -1));
            refused("copy to none", -1, x -> x.copy(3, 0, t, 0, -1));
        }
        refused("copy from a missing table", -5, x -> x.copy(3, -1, 0, 0, 1));
        refused("copy to a missing table", -5, x -> x.copy(0, 0, 3, 0, -1));
        refused("copy of -1", -7, x -> x.copy(0, 1, 1, 1, -1));
        refused("copy of least", -7, x -> x.copy(0, 1, 1, 1, LEAST));
        refused("copy of most", -7, x -> x.copy(0, 1, 1, 1, MOST));
        refused("copy from -1", -7, x -> x.copy(0, -1, 1, 0, 1));
        refused("copy to -1", -7, x -> x.copy(0, 0, 1, -1, 1));
        refused("copy from -1 of none", -7, x -> x.copy(0, -1, 1, 0, 0));
        refused("copy to -1 of none", -7, x -> x.copy(0, 0, 1, -1, 0));
        refused("copy from 4 of 3 of none", -7, x -> x.copy(0, 4, 1, 0, 0));
        refused("copy to 6 of 5 of none", -7, x -> x.copy(0, 0, 1, 6, 0));
        refused("copy of 4 of 3", -7, x -> x.copy(0, 0, 1, 0, 4));
        refused("copy of 3 to 3 of 5", -7, x -> x.copy(0, 0, 1, 3, 3));
        refused("copy from most", -7, x -> x.copy(0, MOST, 1, 0, 1));
        refused("copy to most", -7, x -> x.copy(0, 0, 1, MOST, 1));
        refused("copy from and of most", -7, x -> x.copy(0, MOST, 1, MOST, MOST));
        refused("copy of an empty row", -7, x -> x.copy(2, 0, 1, 0, 1));
    }

    private static void boatsAndHides() {
        refused("DRAUGHT -1", -4, x -> x.boat(-1, 61, 1, 1));
        refused("HOLD 0", -4, x -> x.boat(21, 0, 1, 1));
        refused("STRENGTH -1", -4, x -> x.boat(1, 1, -1, 16));
        refused("BOLD -1", -4, x -> x.boat(1, 1, 100, -1));
        refused("DRAUGHT 21", -6, x -> x.boat(21, 1, 1, 1));
        refused("HOLD 61", -6, x -> x.boat(1, 61, 1, 1));
        refused("STRENGTH 100", -6, x -> x.boat(1, 1, 100, 1));
        refused("BOLD 16", -6, x -> x.boat(1, 1, 1, 16));
        for (int b : new int[] {-1, 2, LEAST, MOST}) {
            refused("load of none", -1, x -> x.load(b, -1));
            refused("boatOf of none", -1, x -> x.boatOf(b, 9));
        }
        refused("load of -1", -4, x -> x.load(0, -1));
        refused("load of least", -4, x -> x.load(0, LEAST));
        refused("load above the HOLD", -6, x -> x.load(0, 31));
        refused("load of most", -6, x -> x.load(0, MOST));
        for (int c : new int[] {-1, 6, LEAST, MOST}) {
            refused("hide of none", -1, x -> x.hide(c, 0, 0));
        }
        refused("ROOM 0", -4, x -> x.hide(0, 0, 21));
        refused("COST 0", -4, x -> x.hide(0, 201, 0));
        refused("ROOM 201", -6, x -> x.hide(0, 201, 1));
        refused("COST 21", -6, x -> x.hide(0, 1, 21));
        for (int h : new int[] {-1, 3, LEAST, MOST}) {
            refused("search of none", -1, x -> x.search(h));
            refused("hideOf of none", -1, x -> x.hideOf(h, 3));
        }
        refused("best of -1", -4, x -> x.best(-1));
        refused("best of least", -4, x -> x.best(LEAST));
        refused("best of 101", -6, x -> x.best(101));
        refused("best of most", -6, x -> x.best(MOST));
    }

    private static void watchers() {
        for (int c : new int[] {-1, 6, LEAST, MOST}) {
            refused("stand of none", -1, x -> x.stand(c, -1));
            refused("bribe of none", -1, x -> x.bribe(c, true));
            refused("bribe of none", -1, x -> x.bribe(c, false));
            refused("share of none", -1, x -> x.share(c, 100));
            refused("watched of none", -1, x -> x.watched(c));
        }
        refused("stand of -1", -4, x -> x.stand(0, -1));
        refused("stand of least", -4, x -> x.stand(0, LEAST));
        refused("stand of 10", -6, x -> x.stand(0, 10));
        refused("stand of most", -6, x -> x.stand(0, MOST));
        refused("share of -1", -4, x -> x.share(0, -1));
        refused("share of least", -4, x -> x.share(0, LEAST));
        refused("share of 100", -6, x -> x.share(0, 100));
        refused("share of most", -6, x -> x.share(0, MOST));
        refused("draws of -1", -4, x -> x.draws(-1));
        refused("draws of least", -4, x -> x.draws(LEAST));
        refused("draws of 10", -6, x -> x.draws(10));
        refused("draws of most", -6, x -> x.draws(MOST));
    }

    private static void lawsAndWords() {
        refused("price of -1", -4, x -> x.price(-1));
        refused("price of least", -4, x -> x.price(LEAST));
        refused("price of 1000", -6, x -> x.price(1000));
        refused("price of most", -6, x -> x.price(MOST));
        refused("law, CREW -1", -4, x -> x.law(-1, 101, 5));
        refused("law, INFORMER -1", -4, x -> x.law(101, -1, 5));
        refused("law of night 2", -4, x -> x.law(100, 100, 2));
        refused("law of night -1", -4, x -> x.law(1, 1, -1));
        refused("law of night least", -4, x -> x.law(1, 1, LEAST));
        refused("law, 101 together", -6, x -> x.law(50, 51, 5));
        refused("law, CREW 101", -6, x -> x.law(101, 0, 5));
        refused("law, INFORMER 101", -6, x -> x.law(0, 101, 5));
        refused("law, most", -6, x -> x.law(MOST, MOST, 5));
        refused("law, most and 1", -6, x -> x.law(1, MOST, 5));
        refused("law of night 1001", -6, x -> x.law(1, 1, 1001));
        refused("law of night most", -6, x -> x.law(1, 1, MOST));
        for (int n : new int[] {-1, 6, LEAST, MOST}) {
            refused("word of none", -1, x -> x.word(n, 1, 0));
            refused("word of no cove", -1, x -> x.word(0, 1001, n));
            refused("weight of none", -1, x -> x.weight(n, 2));
        }
        refused("word of night 3", -4, x -> x.word(0, 3, 0));
        refused("word of night 1, told already", -4, x -> x.word(0, 1, 1));
        refused("word of night least", -4, x -> x.word(0, LEAST, 1));
        refused("word of night 1001", -6, x -> x.word(0, 1001, 0));
        refused("word of night most", -6, x -> x.word(0, MOST, 0));
        refused("word told already", -3, x -> x.word(0, 9, 5));
    }

    private static void nights() {
        refused("nights of 0", -4, x -> x.nights(0));
        refused("nights of -1", -4, x -> x.nights(-1));
        refused("nights of least", -4, x -> x.nights(LEAST));
        refused("nights of 998", -6, x -> x.nights(998));
        refused("nights of most", -6, x -> x.nights(MOST));
    }

    private static void fractions() {
        for (int c : new int[] {-1, 6, LEAST, MOST}) {
            refused("belief of none", -1, x -> x.belief(c, -1, 2));
            refused("chance of none", -1, 4000000000000000001L, x -> x.chance(c, -1, 1, 0));
        }
        refused("belief of night -1", -4, x -> x.belief(0, -1, 2));
        refused("belief of night 1001", -6, x -> x.belief(0, 1001, 2));
        refused("belief of night most", -6, x -> x.belief(0, MOST, 0));
        for (int part : new int[] {-1, 2, LEAST, MOST}) {
            refused("belief, part", -2, x -> x.belief(0, 9, part));
            refused("weight, part", -2, x -> x.weight(0, part));
            refused("value, part", -2, 4000000000000000002L, x -> x.value(1, 1, part));
            refused("chance, part", -2, 4000000000000000002L, x -> x.chance(0, 1, 1, part));
        }
        refused("value, K -1", -4, 4000000000000000004L, x -> x.value(-1, 100, 0));
        refused("value, K least", -4, 4000000000000000004L, x -> x.value(LEAST, 1, 0));
        refused("value, FINE 0", -4, 4000000000000000004L, x -> x.value(7, 0, 2));
        refused("value, FINE least", -4, 4000000000000000004L, x -> x.value(1, LEAST, 0));
        refused("value, K 7", -6, 4000000000000000006L, x -> x.value(7, 1, 2));
        refused("value, FINE 100", -6, 4000000000000000006L, x -> x.value(1, 100, 0));
        refused("value, FINE most", -6, 4000000000000000006L, x -> x.value(1, MOST, 0));
        refused("chance, K -1", -4, 4000000000000000004L, x -> x.chance(0, -1, 100, 0));
        refused("chance, FINE 0", -4, 4000000000000000004L, x -> x.chance(0, 7, 0, 2));
        refused("chance, K 7", -6, 4000000000000000006L, x -> x.chance(0, 7, 1, 2));
        refused("chance, K most", -6, 4000000000000000006L, x -> x.chance(0, MOST, 1, 0));
        refused("chance, FINE 100", -6, 4000000000000000006L, x -> x.chance(5, 1, 100, 0));
    }

    private static void spans() {
        for (int season : new int[] {-1, 34, LEAST, MOST}) {
            refused("used of none", -1, x -> x.used(season, -1, 0, 0));
            refused("landed of none", -1, x -> x.landed(season, 4));
        }
        refused("used, least -1", -4, x -> x.used(0, -1, 100001, 0));
        refused("used, most -1", -4, x -> x.used(0, 0, -1, 0));
        refused("used, by law -1", -4, x -> x.used(0, 100001, 0, -1));
        refused("used, least 100001", -6, x -> x.used(0, 100001, 0, 0));
        refused("used, most 100001", -6, x -> x.used(0, 0, 100001, 0));
        refused("used, by law 100001", -6, x -> x.used(0, 1, 0, 100001));
        refused("used, least above most", -3, x -> x.used(0, 61, 60, 0));
        for (int what : new int[] {-1, 4, LEAST, MOST}) {
            refused("landed, what", -2, x -> x.landed(0, what));
        }
    }

    private static void questions() {
        for (int lot : new int[] {-1, 100, LEAST, MOST}) {
            refused("lotOf of none", -1, x -> x.lotOf(lot, 6));
        }
        for (int what : new int[] {-1, LEAST, MOST}) {
            refused("lotOf, what", -2, x -> x.lotOf(0, what));
            refused("boatOf, what", -2, x -> x.boatOf(0, what));
            refused("hideOf, what", -2, x -> x.hideOf(0, what));
            refused("coins, what", -2, x -> x.coins(what));
        }
        refused("lotOf, what 6", -2, x -> x.lotOf(0, 6));
        refused("boatOf, what 9", -2, x -> x.boatOf(0, 9));
        refused("hideOf, what 3", -2, x -> x.hideOf(0, 3));
        refused("coins, what 8", -2, x -> x.coins(8));
    }

    private static void full() {
        story = RefusalsTest::ended;
        refused("boat 8", -6, x -> x.boat(1, 1, 1, 1));
        refused("boat 8, below", -4, x -> x.boat(-1, 1, 1, 1));
        refused("hide 12", -6, x -> x.hide(1, 1, 1));
        refused("hide 12, below", -4, x -> x.hide(1, 0, 1));
        refused("hide 12, no cove", -1, x -> x.hide(6, 1, 1));
        refused("law 20", -6, x -> x.law(1, 1, 5));
        refused("law 20, below", -4, x -> x.law(1, 1, -1));
        refused("word 60", -6, x -> x.word(5, 7, 5));
        refused("word 60, told already", -6, x -> x.word(0, 1000, 0));
        refused("word 60, below", -4, x -> x.word(0, 0, 0));
        refused("load of a full boat", -6, x -> x.load(7, 10));
        story = x -> x.nights(1000);
        refused("night 1001", -6, x -> x.nights(1));
        refused("no night", -4, x -> x.nights(0));
        refused("law of night 1001", -6, x -> x.law(1, 1, 1001));
        refused("law of night 999", -4, x -> x.law(1, 1, 999));
        refused("word of night 1000", -4, x -> x.word(1, 1000, 1));
        refused("word of night 1001", -6, x -> x.word(1, 1001, 1));
    }
}
