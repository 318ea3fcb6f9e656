import java.util.ArrayList;
import java.util.List;

/**
 * Calls in which several arguments are refused at once: the answer is the refusal that the document tells first,
 * and it alone is counted. All arguments that can be refused together are, each with each.
 */
public final class OrderTest {
    private static final Sentences S = new Sentences();

    public static void main(String[] args) {
        for (Call call : Calls.ALL) {
            if (call.order.size() > 1 && call.arguments.size() + (call.always == 0 ? 0 : 1) > 1) {
                pairs(call);
            }
        }
        byHand();
        S.finish();
    }

    private static void pairs(Call call) {
        for (int first = 0; first < call.order.size(); first++) {
            for (int later = first + 1; later < call.order.size(); later++) {
                pair(call, call.order.get(first), call.order.get(later));
            }
        }
        S.test(call.part(), call.words, where(call) + "all that can be refused together", () -> together(call));
    }

    private static String where(Call call) {
        return call.line() + (call.always == 0 ? ": " : " where no more have room: ");
    }

    private static void pair(Call call, int first, int later) {
        List<int[]> both = new ArrayList<>();
        for (int i = 0; i < call.arguments.size(); i++) {
            for (int n : refusedAs(call, i, first)) {
                if (call.always == later) {
                    both.add(call.goodOnesBut(i, n));
                }
                for (int j = 0; j < call.arguments.size(); j++) {
                    for (int m : j == i ? List.<Integer>of() : refusedAs(call, j, later)) {
                        int[] all = call.goodOnesBut(i, n);
                        all[j] = m;
                        both.add(all);
                    }
                }
            }
        }
        if (!both.isEmpty()) {
            S.test(call.part(), call.words, where(call) + first + " goes before " + later,
                () -> both.forEach(all -> EdgesTest.answersFirst(S, call, all)));
        }
    }

    private static List<Integer> refusedAs(Call call, int place, int number) {
        List<Integer> all = new ArrayList<>(call.arguments.get(place).refused().keySet());
        all.removeIf(n -> call.arguments.get(place).refused().get(n) != number);
        return all;
    }

    private static void together(Call call) {
        choose(call, 0, call.goodOnes());
    }

    private static void choose(Call call, int place, int[] chosen) {
        if (place == chosen.length) {
            if (call.first(chosen) != 0) {
                EdgesTest.answersFirst(S, call, chosen);
            }
            return;
        }
        Call.Argument argument = call.arguments.get(place);
        int[] next = chosen.clone();
        next[place] = argument.good();
        choose(call, place + 1, next);
        for (int n : argument.refused().keySet()) {
            next[place] = n;
            choose(call, place + 1, next);
        }
    }

    /** Refusals that fit together only by what went before. */
    private static void byHand() {
        String word = "-1; -4 the NIGHT is not behind now; -6 above 1000, 60; -3 it was told by that one.";
        S.test("Promise 19", word, "told already, and its NIGHT is now: -4 goes before -3", () -> S.run().lines(
            "word 0 1 0 = 0", "nights 1", "word 0 1 0 = -4", "count 14 = 1", "count 13 = 0"));
        S.test("Promise 19", word, "told already, and there are 60: -6 goes before -3", () ->
            S.run().lines(Stories.FULL).lines("word 0 900 0 = -6", "count 16 = 1", "count 13 = 0"));
        S.test("Promise 19", word, "there are 60, the NIGHT is now: -4 goes before -6", () ->
            S.run().lines(Stories.FULL).lines("nights 900", "word 0 900 0 = -4", "count 14 = 1", "count 16 = 0",
            "count 13 = 0"));
        S.test("Promise 6", "-1; -5; -7; -4; -6.", "a missing TABLE has no places either: -5 goes before -7", () ->
            S.run().lines("put 0 0 1 = -5", "put 0 -1 -1 = -5", "put 0 30 21 = -5", "count 15 = 3", "count 17 = 0"));
        S.test("Promise 7", "-5 (t, u)", "both are missing: counted once", () -> S.run()
            .lines("copy 0 0 1 0 0 = -5", "copy 2 0 2 0 0 = -5", "count 15 = 2"));
        S.test("Promise 7", "-1; -5 (t, u)", "t is missing, u is none: -1 goes before -5", () ->
            S.run().lines("copy 0 0 4 0 0 = -1", "copy 4 0 0 0 0 = -1", "copy 0 0 -1 0 0 = -1", "count 11 = 3",
            "count 15 = 0"));
        S.test("Promise 18", "-4 below 0, a NIGHT ahead of now; -6 parts above 100 together",
            "a NIGHT ahead of now and parts above 100 together: -4 goes before -6", () -> S.run()
            .lines("nights 2", "law 100 1 1 = -4", "law 100 1 2 = -6", "count 14 = 1", "count 16 = 1"));
        S.test("Promise 27", "-1; -4; -6; -3 least above most.",
            "least above most, which is below 0: -4 goes before -3", () -> S.run().lines("used 0 0 -1 0 = -4",
            "used 0 100001 100000 0 = -6", "used 0 1 0 100001 = -6", "used 34 1 0 0 = -1", "used 0 1 0 0 = -3",
            "count 13 = 1", "count 14 = 1", "count 16 = 2"));
        S.test("Terms", "the first that fits in the order in which it tells them",
            "a BOAT of none is loaded with less than 0", () -> S.run().lines("load 0 -1 = -1", "boat 0 1 0 0",
            "load 0 -1 = -4", "load 0 2 = -6", "load 1 2 = -1", "count 11 = 2", "count 14 = 1", "count 16 = 1"));
    }
}
