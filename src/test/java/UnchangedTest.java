import java.util.ArrayList;
import java.util.List;
import java.util.Map;

/**
 * A refused call changes nothing that a later call can show, but how many there were: an object that refused it
 * and a twin that was never asked answer all later calls alike.
 */
public final class UnchangedTest {
    private static final String WORDS = "nothing changes but how many there were";
    private static final Sentences S = new Sentences();

    public static void main(String[] args) {
        for (Call call : Calls.ALL) {
            List<int[]> refused = refusedOnes(call);
            S.test("Terms", WORDS, call.part() + ", " + call.line() + (call.always == 0 ? "" : " without room"),
                () -> refused.forEach(all -> leavesAll(call, all)));
        }
        S.test("Terms", WORDS, "a word that was told already", UnchangedTest::wordToldAlready);
        S.test("Terms", WORDS, "parts that go round together", UnchangedTest::partsThatGoRound);
        S.test("Terms", WORDS, "each twice: twice as many and nothing else", UnchangedTest::twice);
        S.finish();
    }

    private static List<int[]> refusedOnes(Call call) {
        List<int[]> all = new ArrayList<>();
        for (int place = 0; place < call.arguments.size(); place++) {
            for (Map.Entry<Integer, Integer> bad : call.arguments.get(place).refused().entrySet()) {
                all.add(call.goodOnesBut(place, bad.getKey()));
            }
        }
        if (call.always != 0) {
            all.add(call.goodOnes());
        }
        return all;
    }

    private static void leavesAll(Call call, int[] all) {
        leavesAll(call.story, call.line(all), call.answerOf(call.first(all)), call.first(all));
    }

    private static void leavesAll(String[] story, String line, long answer, int number) {
        for (int kind = 0; kind < Probe.KINDS; kind++) {
            Run refuser = S.run().lines(story).due(line, answer);
            Run twin = S.run().lines(story);
            S.check.holds(line + ": later calls of kind " + kind + " are answered as by a twin",
                Probe.ask(refuser, kind).equals(Probe.ask(twin, kind)));
            List<Long> due = twin.refusals();
            due.set(-number - 1, due.get(-number - 1) + 1);
            S.check.holds(line + ": one refusal more than the twin's", refuser.refusals().equals(due));
        }
    }

    private static void wordToldAlready() {
        leavesAll(Stories.BEGUN, "word 0 9 5", -3, -3);
        leavesAll(Stories.BEGUN, "word 3 9 5", -3, -3);
        leavesAll(Stories.BEGUN, "word 2 3 4", -4, -4);
        leavesAll(Stories.FULL, "word 0 900 0", -6, -6);
    }

    private static void partsThatGoRound() {
        leavesAll(Stories.BEGUN, "law 2147483647 2147483647 4", -6, -6);
        leavesAll(Stories.BEGUN, "law 2147483647 1 4", -6, -6);
        leavesAll(Stories.BEGUN, "copy 0 2147483647 1 0 2147483647", -7, -7);
        leavesAll(Stories.BEGUN, "nights 2147483647", -6, -6);
    }

    private static void twice() {
        for (Call call : Calls.ALL) {
            Run run = S.run().lines(call.story);
            List<Long> due = run.refusals();
            for (int[] all : refusedOnes(call)) {
                int number = call.first(all);
                for (int time = 0; time < 2; time++) {
                    run.due(call.line(all), call.answerOf(number));
                    due.set(-number - 1, due.get(-number - 1) + 1);
                }
            }
            S.check.holds(call.line() + ": each is counted each time", run.refusals().equals(due));
        }
    }
}
