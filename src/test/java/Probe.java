import java.util.ArrayList;
import java.util.List;
import java.util.function.Consumer;

/** Long runs of later calls, of several kinds, that show what a story has left in an object. */
final class Probe {
    static final int KINDS = 6;

    /** Asks the call of the run and keeps its answer. */
    private interface Asked {
        void ask(String call);
    }

    private Probe() { }

    /** Each kind of later calls is for an object of its own. */
    static List<Consumer<List<Long>>> kinds(Run run) {
        return List.of(answers -> look(into(run, answers)), answers -> apart(into(run, answers)),
            answers -> sail(into(run, answers)), answers -> seize(into(run, answers)),
            answers -> fill(into(run, answers)), answers -> pass(into(run, answers)));
    }

    static List<Long> ask(Run run, int kind) {
        List<Long> answers = new ArrayList<>();
        kinds(run).get(kind).accept(answers);
        return answers;
    }

    private static Asked into(Run run, List<Long> answers) {
        return call -> answers.add(run.ask(call));
    }

    private static void each(Asked x, String call, int most) {
        for (int n = 0; n <= most; n++) {
            x.ask(call.replace("#", Integer.toString(n)));
        }
    }

    /** Questions alone. */
    private static void look(Asked x) {
        each(x, "count #", 9);
        each(x, "coins #", 7);
        for (int c = 0; c < 6; c++) {
            each(x, "tide " + c + " #", 5);
            x.ask("watched " + c);
            x.ask("chance " + c + " 5 10 0");
            x.ask("chance " + c + " 5 10 1");
            for (int night = 8; night <= 10; night++) {
                x.ask("belief " + c + " " + night + " 0");
            }
            x.ask("weight " + c + " 0");
            x.ask("weight " + c + " 1");
        }
        each(x, "value 2 10 #", 1);
        for (int n = 0; n < 4; n++) {
            each(x, "lotOf " + n + " #", 5);
            each(x, "boatOf " + n + " #", 8);
            each(x, "hideOf " + n + " #", 2);
            each(x, "landed " + n + " #", 3);
        }
        each(x, "landed 33 #", 3);
        each(x, "best #", 12);
    }

    /** Takes all orders back, which answers what they were. */
    private static void apart(Asked x) {
        for (int t = 0; t < 4; t++) {
            each(x, "put " + t + " # 20", 5);
            x.ask("lose " + t);
        }
        for (int c = 0; c < 6; c++) {
            x.ask("lead " + c + " -1");
            x.ask("stand " + c + " 0");
            x.ask("share " + c + " 0");
            x.ask("bribe " + c + " false");
        }
        for (int informer = 0; informer < 6; informer++) {
            for (int c = 0; c < 6; c++) {
                x.ask("word " + informer + " 9 " + c);
            }
        }
        x.ask("draws 0");
        x.ask("price 0");
        x.ask("seed 0");
        each(x, "load # 60", 7);
        each(x, "load # 18", 7);
        each(x, "load # 33", 7);
        each(x, "search #", 3);
        each(x, "used # 100000 100000 0", 5);
        each(x, "landed # 0", 5);
    }

    /** The TIDE rises night by night at all COVES: what a deep BOAT fears tells which are OPEN. */
    private static void sail(Asked x) {
        x.ask("row 3 30");
        for (int c = 0; c < 6; c++) {
            x.ask("lead " + c + " 3");
            x.ask("stand " + c + " 3");
        }
        x.ask("boat 20 60 99 15");
        each(x, "load # 1", 8);
        for (int night = 0; night < 30; night++) {
            x.ask("put 3 " + night + " " + Math.min(20, Math.max(0, night + 7)));
        }
        for (int night = 0; night < 13; night++) {
            x.ask("nights 1");
            each(x, "boatOf 2 #", 8);
            each(x, "boatOf # 1", 2);
            each(x, "boatOf # 0", 2);
        }
    }

    /** Every night all is SEIZED, so that LAWS, WORDS, SHARES and strengths are seen in COINS. */
    private static void seize(Asked x) {
        x.ask("price 100");
        for (int c = 0; c < 6; c++) {
            x.ask("stand " + c + " 1");
        }
        for (int night = 0; night < 12; night++) {
            each(x, "load # 4", 3);
            x.ask("nights 1");
            each(x, "coins #", 7);
            each(x, "watched #", 5);
            x.ask("count 3");
        }
        each(x, "boatOf # 1", 3);
        each(x, "weight # 0", 5);
    }

    /** NIGHTS pass as all orders stand. */
    private static void pass(Asked x) {
        for (int night = 0; night < 15; night++) {
            each(x, "load # 3", 1);
            x.ask("nights 1");
            each(x, "watched #", 5);
            each(x, "coins #", 2);
            each(x, "boatOf # 0", 1);
            x.ask("count 9");
        }
        each(x, "hideOf # 1", 2);
        each(x, "weight # 1", 5);
        each(x, "landed 0 #", 3);
    }

    /** Nobody watches, and HIDES are filled until BOATS go home. */
    private static void fill(Asked x) {
        x.ask("draws 0");
        for (int c = 0; c < 6; c++) {
            x.ask("stand " + c + " 0");
        }
        for (int night = 0; night < 20; night++) {
            each(x, "load # 5", 3);
            x.ask("nights 1");
            each(x, "hideOf # 0", 3);
            each(x, "boatOf # 2", 3);
        }
        each(x, "hideOf # 1", 3);
        each(x, "best #", 15);
        each(x, "count #", 9);
    }
}
