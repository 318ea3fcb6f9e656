import java.util.ArrayList;
import java.util.List;
import java.util.Map;

/**
 * For each argument of each call: the last values that are taken and the first that are refused on either side,
 * and the ends of an int. A taken one is no refusal; a refused one is counted once, and no other with it.
 */
public final class EdgesTest {
    private static final Sentences S = new Sentences();

    public static void main(String[] args) {
        for (Call call : Calls.ALL) {
            if (call.always == 0) {
                taken(call);
            }
            refused(call);
        }
        S.finish();
    }

    private static String side(Call call, String of) {
        return call.line() + (call.story == Stories.FULL ? " where no more have room" : "")
            + (call.story == Stories.LAST ? " in the last NIGHT" : "") + ": " + of;
    }

    private static void taken(Call call) {
        for (int place = 0; place < call.arguments.size(); place++) {
            Call.Argument argument = call.arguments.get(place);
            for (int n : argument.taken()) {
                String line = call.line(call.goodOnesBut(place, n));
                S.test(call.part(), call.words, side(call, argument.name() + " " + n + " is taken"), () -> {
                    Run run = S.run().lines(call.story);
                    List<Long> before = run.refusals();
                    long answer = run.ask(line);
                    S.check.holds(line + " answered " + answer + ": not a refusal", !isRefusal(call, answer));
                    S.check.holds(line + ": none is counted", run.refusals().equals(before));
                });
            }
        }
    }

    private static boolean isRefusal(Call call, long answer) {
        for (int number : call.order) {
            if (answer == call.answerOf(number)) {
                return true;
            }
        }
        return false;
    }

    private static void refused(Call call) {
        for (int place = 0; place < call.arguments.size(); place++) {
            Call.Argument argument = call.arguments.get(place);
            for (Map.Entry<Integer, Integer> bad : argument.refused().entrySet()) {
                int[] all = call.goodOnesBut(place, bad.getKey());
                String name = argument.name() + " " + bad.getKey() + " is refused";
                S.test(call.part(), call.words, side(call, name), () -> answersFirst(S, call, all));
            }
        }
        if (call.always != 0) {
            S.test(call.part(), call.words, side(call, "good ones are refused"),
                () -> answersFirst(S, call, call.goodOnes()));
        }
    }

    /** The call answers the refusal that the document tells first, and counts it alone. */
    static void answersFirst(Sentences tests, Call call, int... all) {
        int number = call.first(all);
        Run run = tests.run().lines(call.story);
        List<Long> due = new ArrayList<>(run.refusals());
        due.set(-number - 1, due.get(-number - 1) + 1);
        String line = call.line(all);
        run.due(line, call.answerOf(number));
        tests.check.holds(line + ": it alone is counted", run.refusals().equals(due));
    }
}
