/** What each promise answers: ordinary calls and the edges that the document names. */
public final class PromisesTest {
    private static final Check CHECK = new Check();

    private static void due(String call, long got, long want) {
        CHECK.due(call, got, want);
    }

    public static void main(String[] args) {
        newObject();
        seed();
        cove();
        row();
        lose();
        put();
        copy();
        lead();
        tide();
        boat();
        load();
        hide();
        stand();
        bribe();
        share();
        draws();
        price();
        law();
        word();
        nights();
        choice();
        fears();
        fullStore();
        search();
        best();
        belief();
        weight();
        value();
        chance();
        used();
        landed();
        lotOf();
        boatOf();
        hideOf();
        watched();
        coins();
        count();
        CHECK.finish();
    }

    /** A boat that is open everywhere, never too timid, with so many casks. */
    private static int loadedBoat(CoastWatch x, int strength, int casks) {
        int b = x.boat(0, 60, strength, 15);
        x.load(b, casks);
        return b;
    }

    /** So many watchers stand at every cove. */
    private static void guardAll(CoastWatch x, int n) {
        for (int c = 0; c < 6; c++) {
            x.stand(c, n);
        }
    }

    private static void newObject() {
        CHECK.begin("promise 1");
        CoastWatch x = new CoastWatch();
        for (int what = 0; what <= 7; what++) {
            due("count(" + what + ")", x.count(what), 0);
        }
        due("count(8)", x.count(8), 15);
        due("count(9)", x.count(9), 1);
        for (int what = 11; what <= 17; what++) {
            due("count(" + what + ")", x.count(what), 0);
        }
        for (int what = 0; what <= 7; what++) {
            due("coins(" + what + ")", x.coins(what), 0);
        }
        for (int c = 0; c < 6; c++) {
            due("watched", x.watched(c), 0);
            due("stand", x.stand(c, 0), 0);
            due("share", x.share(c, 0), 0);
            due("lead", x.lead(c, -1), -1);
            due("bribe", x.bribe(c, false), 0);
        }
        for (int t = 0; t < 4; t++) {
            due("lose", x.lose(t), 0);
        }
        due("draws", x.draws(0), 0);
        due("price", x.price(0), 0);
        due("boatOf", x.boatOf(0, 0), -1);
        due("hideOf", x.hideOf(0, 0), -1);
        due("lotOf", x.lotOf(0, 0), -1);
    }

    private static void seed() {
        CHECK.begin("promise 2");
        CoastWatch x = new CoastWatch();
        due("seed(5)", x.seed(5), 1);
        due("seed(least)", x.seed(Integer.MIN_VALUE), 5);
        due("count(9)", x.count(9), 0);
        due("seed(most)", x.seed(Integer.MAX_VALUE), Integer.MIN_VALUE);
        due("count(9)", x.count(9), 0xFFFF);
        due("seed(-1)", x.seed(-1), Integer.MAX_VALUE);
        due("seed(0)", x.seed(0), -1);
        x.share(2, 1);
        x.draws(1);
        x.nights(1);
        due("seed after a draw", x.seed(1), 12345);
        x.nights(1);
        due("seed after a draw from 1", x.seed(0), 1103527590);
    }

    private static void cove() {
        CHECK.begin("promise 3");
        CoastWatch x = new CoastWatch();
        due("cove(0, 0, 1)", x.cove(0, 0, 1), 1);
        due("cove(5, 9, 99)", x.cove(5, 9, 99), 1);
        due("value", x.value(0, 1, 0), 99);
        // DEPTH: TIDE is 8 at cove 5 on night 1, so 17 with DEPTH 9; at the others 12 at most with DEPTH 0.
        x = new CoastWatch();
        x.boat(13, 60, 50, 15);
        x.load(0, 1);
        x.hide(5, 10, 1);
        for (int c = 0; c < 5; c++) {
            x.cove(c, 0, 10);
        }
        x.cove(5, 9, 10);
        due("tide(5, 1)", x.tide(5, 1), 8);
        due("nights(1)", x.nights(1), 1);
        due("lotOf(0, 3)", x.lotOf(0, 3), 5);
        // WORTH: of coves as little feared the worthiest.
        x = new CoastWatch();
        x.cove(4, 3, 11);
        x.hide(4, 50, 1);
        loadedBoat(x, 0, 5);
        due("nights(1)", x.nights(1), 1);
        due("lotOf(0, 3)", x.lotOf(0, 3), 4);
    }

    private static void row() {
        CHECK.begin("promise 4");
        CoastWatch x = new CoastWatch();
        due("row(0, 0)", x.row(0, 0), 0);
        due("row(3, 30)", x.row(3, 30), 30);
        due("put(3, 29, 20)", x.put(3, 29, 20), 0);
        due("put(3, 0, 4)", x.put(3, 0, 4), 0);
        due("row(3, 30)", x.row(3, 30), 30);
        due("put(3, 29, 1)", x.put(3, 29, 1), 0);
        due("put(3, 0, 1)", x.put(3, 0, 1), 0);
        due("row(3, 1)", x.row(3, 1), 1);
        due("put(3, 1, 1)", x.put(3, 1, 1), -7);
        due("row(3, 30)", x.row(3, 30), 30);
        due("put(3, 29, 1)", x.put(3, 29, 1), 0);
    }

    private static void lose() {
        CHECK.begin("promise 5");
        CoastWatch x = new CoastWatch();
        due("lose(0)", x.lose(0), 0);
        x.row(0, 0);
        due("lose(0)", x.lose(0), 1);
        due("lose(0)", x.lose(0), 0);
        x.row(3, 4);
        due("lose(3)", x.lose(3), 1);
        due("put(3, 0, 1)", x.put(3, 0, 1), -5);
    }

    private static void put() {
        CHECK.begin("promise 6");
        CoastWatch x = new CoastWatch();
        x.row(2, 2);
        due("put(2, 0, 20)", x.put(2, 0, 20), 0);
        due("put(2, 0, 0)", x.put(2, 0, 0), 20);
        due("put(2, 1, 3)", x.put(2, 1, 3), 0);
        due("put(2, 0, 1)", x.put(2, 0, 1), 0);
        due("put(2, 1, 1)", x.put(2, 1, 1), 3);
        x.row(1, 0);
        due("put(1, 0, 1)", x.put(1, 0, 1), -7);
    }

    private static void copy() {
        CHECK.begin("promise 7");
        CoastWatch x = new CoastWatch();
        x.row(0, 5);
        for (int i = 0; i < 5; i++) {
            x.put(0, i, i + 1);
        }
        x.row(1, 4);
        due("copy to another", x.copy(0, 1, 1, 0, 4), 4);
        for (int i = 0; i < 4; i++) {
            due("number " + i, x.put(1, i, 0), i + 2);
        }
        due("copy ahead in itself", x.copy(0, 0, 0, 1, 4), 4);
        int[] ahead = {1, 1, 2, 3, 4};
        for (int i = 0; i < 5; i++) {
            due("number " + i, x.put(0, i, i + 1), ahead[i]);
        }
        due("copy back in itself", x.copy(0, 2, 0, 0, 3), 3);
        int[] back = {3, 4, 5, 4, 5};
        for (int i = 0; i < 5; i++) {
            due("number " + i, x.put(0, i, i), back[i]);
        }
        due("copy of none at the ends", x.copy(0, 5, 1, 4, 0), 0);
        due("copy of none at the beginning", x.copy(0, 0, 1, 0, 0), 0);
        x.row(2, 0);
        due("copy of none of an empty row", x.copy(2, 0, 2, 0, 0), 0);
        due("number as it was", x.put(0, 4, 0), 4);
    }

    private static void lead() {
        CHECK.begin("promise 8");
        CoastWatch x = new CoastWatch();
        due("lead(0, 3)", x.lead(0, 3), -1);
        due("lead(5, 0)", x.lead(5, 0), -1);
        due("lead(0, 0)", x.lead(0, 0), 3);
        due("lead(0, -1)", x.lead(0, -1), 0);
        due("lead(0, -1)", x.lead(0, -1), -1);
        due("lead(5, -1)", x.lead(5, -1), 0);
        x.row(2, 1);
        x.put(2, 0, 17);
        due("lead(5, 2)", x.lead(5, 2), -1);
        due("tide(5, 0)", x.tide(5, 0), 17);
        due("tide(4, 0)", x.tide(4, 0), 4);
    }

    private static void tide() {
        CHECK.begin("promise 9");
        CoastWatch x = new CoastWatch();
        int[] atNone = {0, 5, 10, 9, 4, 1};
        for (int c = 0; c < 6; c++) {
            due("tide(" + c + ", 0)", x.tide(c, 0), atNone[c]);
        }
        // 7 n + 5 c: 7008 is 0, 7000 is 16, 7025 is 17 modulo 24.
        due("tide(0, 1000)", x.tide(0, 1000), 8);
        due("tide(5, 1000)", x.tide(5, 1000), 7);
        due("tide(1, 1)", x.tide(1, 1), 12);
        due("tide(2, 3)", x.tide(2, 3), 7);
        // 7 times 19 is 13 modulo 24, 7 times 5 is 11.
        due("tide(0, 19)", x.tide(0, 19), 11);
        due("tide(0, 5)", x.tide(0, 5), 11);
        x.row(0, 3);
        x.put(0, 0, 20);
        x.put(0, 2, 7);
        x.lead(1, 0);
        due("tide(1, 0)", x.tide(1, 0), 20);
        due("tide(1, 1)", x.tide(1, 1), 0);
        due("tide(1, 2)", x.tide(1, 2), 7);
        due("tide(1, 999)", x.tide(1, 999), 20);
        due("tide(1, 1000)", x.tide(1, 1000), 0);
        x.row(0, 0);
        due("tide(1, 1), empty", x.tide(1, 1), 12);
        x.lose(0);
        due("tide(1, 1), missing", x.tide(1, 1), 12);
        x.row(0, 1);
        due("tide(1, 1), there again", x.tide(1, 1), 0);
        x.lead(1, -1);
        due("tide(1, 1), led by none", x.tide(1, 1), 12);
    }

    private static void boat() {
        CHECK.begin("promise 10");
        CoastWatch x = new CoastWatch();
        due("least boat", x.boat(0, 1, 0, 0), 0);
        due("greatest boat", x.boat(20, 60, 99, 15), 1);
        for (int b = 2; b < 8; b++) {
            due("boat " + b, x.boat(1, 1, 1, 1), b);
        }
        due("boat 8", x.boat(1, 1, 1, 1), -6);
        due("boat 8, below too", x.boat(1, 0, 1, 1), -4);
        due("count(1)", x.count(1), 8);
        // DRAUGHT: TIDE and DEPTH together are 15 at cove 1 on night 1, and less elsewhere.
        x = new CoastWatch();
        x.hide(1, 60, 1);
        x.boat(15, 60, 0, 15);
        x.boat(16, 60, 0, 15);
        x.load(0, 3);
        x.load(1, 3);
        due("nights(1)", x.nights(1), 1);
        due("lotOf(0, 0)", x.lotOf(0, 0), 0);
        due("boatOf(1, 0)", x.boatOf(1, 0), 3);
        due("boatOf(1, 2)", x.boatOf(1, 2), 0);
        // BOLD: LIGHT is 14 on night 1, 13 on night 2.
        x = new CoastWatch();
        x.hide(0, 200, 1);
        x.boat(0, 60, 0, 14);
        x.boat(0, 60, 0, 13);
        x.load(0, 3);
        x.load(1, 4);
        due("nights(1)", x.nights(1), 1);
        due("boatOf(1, 0)", x.boatOf(1, 0), 4);
        due("nights(1)", x.nights(1), 1);
        due("boatOf(1, 0)", x.boatOf(1, 0), 0);
        // STRENGTH: seized if less than ten times as many.
        x = new CoastWatch();
        guardAll(x, 3);
        loadedBoat(x, 29, 2);
        loadedBoat(x, 30, 2);
        due("nights(1)", x.nights(1), 1);
        due("boatOf(0, 0)", x.boatOf(0, 0), 0);
        due("boatOf(1, 0)", x.boatOf(1, 0), 2);
        due("boatOf(1, 1)", x.boatOf(1, 1), 1);
    }

    private static void load() {
        CHECK.begin("promise 11");
        CoastWatch x = new CoastWatch();
        x.boat(0, 10, 0, 0);
        due("load(0, 0)", x.load(0, 0), 0);
        due("load(0, 4)", x.load(0, 4), 4);
        due("load(0, 6)", x.load(0, 6), 10);
        due("load(0, 0)", x.load(0, 0), 10);
        due("load(0, 1)", x.load(0, 1), -6);
        due("load(0, most)", x.load(0, Integer.MAX_VALUE), -6);
        due("boatOf(0, 0)", x.boatOf(0, 0), 10);
    }

    private static void hide() {
        CHECK.begin("promise 12");
        CoastWatch x = new CoastWatch();
        due("hide(0, 1, 1)", x.hide(0, 1, 1), 0);
        due("hide(5, 200, 20)", x.hide(5, 200, 20), 1);
        for (int h = 2; h < 12; h++) {
            due("hide " + h, x.hide(2, 5, 5), h);
        }
        due("hide 12", x.hide(2, 5, 5), -6);
        due("hide 12, below too", x.hide(2, 0, 5), -4);
        due("hide 12, nobody too", x.hide(6, 0, 5), -1);
        due("count(2)", x.count(2), 12);
        // The first one with room for all of them gets them.
        x = new CoastWatch();
        x.hide(1, 100, 1);
        x.hide(0, 9, 1);
        x.hide(0, 10, 1);
        x.hide(0, 100, 1);
        loadedBoat(x, 0, 10);
        loadedBoat(x, 0, 5);
        loadedBoat(x, 0, 5);
        due("nights(1)", x.nights(1), 3);
        due("lotOf(0, 5)", x.lotOf(0, 5), 2);
        due("lotOf(1, 5)", x.lotOf(1, 5), 1);
        due("lotOf(2, 5)", x.lotOf(2, 5), 3);
        due("hideOf(1, 0)", x.hideOf(1, 0), 5);
        due("hideOf(2, 0)", x.hideOf(2, 0), 10);
        due("hideOf(3, 0)", x.hideOf(3, 0), 5);
    }

    private static void stand() {
        CHECK.begin("promise 13");
        CoastWatch x = new CoastWatch();
        due("stand(0, 9)", x.stand(0, 9), 0);
        due("stand(5, 4)", x.stand(5, 4), 0);
        due("watched(0), no night yet", x.watched(0), 0);
        x.nights(1);
        due("watched(0)", x.watched(0), 9);
        due("watched(1)", x.watched(1), 0);
        due("watched(5)", x.watched(5), 4);
        due("stand(0, 0)", x.stand(0, 0), 9);
        due("watched(0), latest night", x.watched(0), 9);
        x.nights(1);
        due("watched(0)", x.watched(0), 0);
        due("stand(0, 1)", x.stand(0, 1), 0);
    }

    private static void bribe() {
        CHECK.begin("promise 14");
        CoastWatch x = new CoastWatch();
        due("bribe(0, false)", x.bribe(0, false), 0);
        due("bribe(0, true)", x.bribe(0, true), 1);
        due("bribe(0, true)", x.bribe(0, true), 0);
        due("bribe(0, false)", x.bribe(0, false), 1);
        due("bribe(5, true)", x.bribe(5, true), 1);
        // The only watcher is bribed: none counts, but one is there.
        x = new CoastWatch();
        guardAll(x, 1);
        x.bribe(0, true);
        x.hide(0, 50, 1);
        loadedBoat(x, 0, 7);
        due("nights(1)", x.nights(1), 1);
        due("watched(0)", x.watched(0), 1);
        due("lotOf(0, 4)", x.lotOf(0, 4), 0);
        due("FEAR of its own cove", x.boatOf(0, 3), 0);
        due("FEAR of the cove beside", x.boatOf(0, 4), 4);
        // None is there: none counts either, not one below 0.
        x = new CoastWatch();
        x.bribe(0, true);
        x.hide(0, 50, 1);
        loadedBoat(x, 0, 7);
        due("nights(1)", x.nights(1), 1);
        due("lotOf(0, 4)", x.lotOf(0, 4), 0);
        // Two are there, one counts; a bribed one is seen from the cove beside.
        x = new CoastWatch();
        x.stand(0, 2);
        x.stand(1, 1);
        x.bribe(0, true);
        x.bribe(1, true);
        loadedBoat(x, 9, 7);
        due("nights(1)", x.nights(1), 1);
        due("lotOf(0, 4)", x.lotOf(0, 4), 1);
        due("FEAR of the cove beside", x.boatOf(0, 4), 4);
    }

    private static void share() {
        CHECK.begin("promise 15");
        CoastWatch x = new CoastWatch();
        due("share(0, 99)", x.share(0, 99), 0);
        due("share(0, 0)", x.share(0, 0), 99);
        due("share(5, 7)", x.share(5, 7), 0);
        x.draws(9);
        x.nights(1);
        for (int c = 0; c < 5; c++) {
            due("watched(" + c + ")", x.watched(c), 0);
        }
        due("watched(5)", x.watched(5), 9);
        // The draws from seed 1 are 16838, 38526, 10113, 50283, 63819: 2, 2, 1, 3, 3 modulo 4.
        x = new CoastWatch();
        x.share(1, 2);
        x.share(3, 1);
        x.share(4, 1);
        x.draws(5);
        x.nights(1);
        int[] want = {0, 1, 0, 2, 2, 0};
        for (int c = 0; c < 6; c++) {
            due("watched(" + c + ")", x.watched(c), want[c]);
        }
    }

    private static void draws() {
        CHECK.begin("promise 16");
        CoastWatch x = new CoastWatch();
        due("draws(9)", x.draws(9), 0);
        due("draws(0)", x.draws(0), 9);
        due("draws(3)", x.draws(3), 0);
        x.nights(2);
        due("no SHARES, no draw", x.seed(1), 1);
        x.share(2, 1);
        x.stand(2, 4);
        x.nights(1);
        due("watched(2)", x.watched(2), 7);
        // A draw of a seed whose highest bit is set has no sign: 0xFFFF....
        x = new CoastWatch();
        x.seed(0);
        x.share(0, 1);
        x.share(1, 1);
        x.draws(1);
        int seed = 0;
        for (int night = 0; night < 40; night++) {
            seed = seed * 1103515245 + 12345;
            int number = (int) (((seed & 0xFFFFFFFFL) / 65536) % 2);
            x.nights(1);
            due("watched(" + number + ") on night " + (night + 1), x.watched(number), 1);
        }
    }

    private static void price() {
        CHECK.begin("promise 17");
        CoastWatch x = new CoastWatch();
        due("price(999)", x.price(999), 0);
        due("price(0)", x.price(0), 999);
        due("price(999)", x.price(999), 0);
        guardAll(x, 1);
        loadedBoat(x, 0, 60);
        x.nights(1);
        due("coins(0)", x.coins(0), 0);
        due("coins(1)", x.coins(1), 59940);
    }

    private static void law() {
        CHECK.begin("promise 18");
        CoastWatch x = new CoastWatch();
        due("law(0, 0, 0)", x.law(0, 0, 0), 0);
        due("law(100, 0, 1000)", x.law(100, 0, 1000), 1);
        due("law(0, 100, 0)", x.law(0, 100, 0), 2);
        due("law(50, 51, 0)", x.law(50, 51, 0), -6);
        due("law of parts that go round", x.law(Integer.MAX_VALUE, Integer.MAX_VALUE, 0), -6);
        x.nights(2);
        due("law(0, 0, 1)", x.law(0, 0, 1), -4);
        due("law(0, 0, 2)", x.law(0, 0, 2), 3);
        for (int number = 4; number < 20; number++) {
            due("law " + number, x.law(1, 1, 5), number);
        }
        due("law 20", x.law(1, 1, 5), -6);
        due("law 20, below too", x.law(-1, 1, 5), -4);
        due("count(7)", x.count(7), 20);
        // In force: the latest night not behind; of several the greatest number.
        x = new CoastWatch();
        x.price(100);
        guardAll(x, 1);
        x.law(10, 0, 3);
        x.law(20, 0, 2);
        x.law(30, 0, 2);
        x.law(40, 0, 5);
        int[] crew = {0, 30, 10, 10, 40, 40};
        int sum = 0;
        x.boat(0, 60, 0, 15);
        for (int night = 1; night <= 6; night++) {
            x.load(0, 1);
            due("nights(1)", x.nights(1), 1);
            sum += crew[night - 1];
            due("coins(0) on night " + night, x.coins(0), sum);
            due("coins(1) on night " + night, x.coins(1), 100 * night - sum);
        }
    }

    private static void word() {
        CHECK.begin("promise 19");
        CoastWatch x = new CoastWatch();
        due("word(0, 1, 0)", x.word(0, 1, 0), 0);
        due("word(5, 1000, 5)", x.word(5, 1000, 5), 1);
        due("word(0, 2, 0)", x.word(0, 2, 0), 2);
        due("word(0, 1, 1)", x.word(0, 1, 1), 3);
        due("word(1, 1, 0)", x.word(1, 1, 0), 4);
        due("word(0, 1, 0) again", x.word(0, 1, 0), -3);
        x.nights(1);
        due("word(0, 1, 0) now", x.word(0, 1, 0), -4);
        due("word(0, 2, 0) again", x.word(0, 2, 0), -3);
        for (int w = 5; w < 60; w++) {
            due("word " + w, x.word(3, w, 3), w);
        }
        due("word 60", x.word(4, 5, 3), -6);
        due("word 60, told already", x.word(3, 5, 3), -6);
        due("word 60, not behind", x.word(3, 1, 3), -4);
        due("word 60, nobody", x.word(3, 1, 6), -1);
        due("count(4)", x.count(4), 60);
        // With 60 words none of which names the cove, nobody gets the informer's part.
        x.price(10);
        x.law(0, 50, 1);
        guardAll(x, 1);
        loadedBoat(x, 0, 1);
        due("nights(1)", x.nights(1), 1);
        due("lotOf(0, 3)", x.lotOf(0, 3), 0);
        due("the word of informer 0 named that cove", x.coins(2), 5);
        x.load(0, 1);
        due("nights(1)", x.nights(1), 1);
        due("lotOf(1, 3)", x.lotOf(1, 3), 2);
        due("coins(1)", x.coins(1), 5 + 10);
        // The first one told gets the informer's part, each lot by itself.
        x = new CoastWatch();
        x.price(7);
        x.law(33, 33, 0);
        guardAll(x, 1);
        loadedBoat(x, 0, 1);
        loadedBoat(x, 0, 2);
        x.word(4, 2, 0);
        x.word(3, 1, 0);
        x.word(2, 1, 0);
        x.word(1, 1, 1);
        due("nights(1)", x.nights(1), 2);
        due("coins(0)", x.coins(0), 2 + 4);
        due("coins(1)", x.coins(1), 3 + 6);
        int[] told = {0, 0, 0, 6, 0, 0};
        for (int i = 0; i < 6; i++) {
            due("coins of informer " + i, x.coins(2 + i), told[i]);
        }
        due("count(5)", x.count(5), 2);
        due("count(6)", x.count(6), 1);
    }

    private static void nights() {
        CHECK.begin("promise 20");
        CoastWatch x = new CoastWatch();
        due("nights(999)", x.nights(999), 0);
        due("nights(2)", x.nights(2), -6);
        due("nights(most)", x.nights(Integer.MAX_VALUE), -6);
        due("nights(1)", x.nights(1), 0);
        due("count(0)", x.count(0), 1000);
        due("nights(1)", x.nights(1), -6);
        due("nights(0)", x.nights(0), -4);
        x = new CoastWatch();
        due("nights(1000)", x.nights(1000), 0);
        due("count(0)", x.count(0), 1000);
        // Lots of several nights are told together.
        x = new CoastWatch();
        x.hide(0, 60, 1);
        x.boat(0, 60, 0, 15);
        x.boat(0, 60, 0, 10);
        x.load(0, 5);
        x.load(1, 5);
        due("nights(5)", x.nights(5), 2);
        due("lotOf(0, 2)", x.lotOf(0, 2), 1);
        due("lotOf(1, 2)", x.lotOf(1, 2), 5);
        due("nights(5)", x.nights(5), 0);
    }

    private static void choice() {
        CHECK.begin("promise 20, the cove that a boat chooses");
        // Without an open cove it stays.
        CoastWatch x = new CoastWatch();
        for (int c = 0; c < 6; c++) {
            x.lead(c, 0);
        }
        x.row(0, 2);
        x.put(0, 0, 10);
        x.boat(13, 60, 50, 15);
        x.load(0, 1);
        due("nights(1)", x.nights(1), 0);
        due("boatOf(0, 2)", x.boatOf(0, 2), 0);
        due("nights(1)", x.nights(1), 0);
        due("boatOf(0, 2)", x.boatOf(0, 2), 1);
        // The least FEAR goes before the greatest WORTH; then the least number.
        x = new CoastWatch();
        x.cove(2, 3, 50);
        x.stand(2, 1);
        loadedBoat(x, 10, 5);
        x.nights(1);
        due("boatOf(0, 1)", x.boatOf(0, 1), 1);
        due("boatOf(0, 5)", x.boatOf(0, 5), 24);
        x.nights(1);
        due("boatOf(0, 1)", x.boatOf(0, 1), 1);
        due("boatOf(0, 2)", x.boatOf(0, 2), 1);
        x.hide(0, 60, 1);
        due("nights(1)", x.nights(1), 1);
        due("lotOf(0, 3)", x.lotOf(0, 3), 0);
        // Nothing aboard: it stays, and fears nothing.
        x = new CoastWatch();
        guardAll(x, 9);
        x.boat(0, 60, 0, 15);
        due("nights(3)", x.nights(3), 0);
        due("boatOf(0, 3)", x.boatOf(0, 3), 0);
        due("boatOf(0, 4)", x.boatOf(0, 4), 0);
        // An open cove with more fear is better than none.
        x = new CoastWatch();
        x.row(0, 1);
        x.row(1, 1);
        x.put(1, 0, 20);
        for (int c = 0; c < 6; c++) {
            x.lead(c, c == 3 ? 1 : 0);
        }
        x.stand(3, 1);
        x.boat(20, 60, 10, 15);
        x.load(0, 1);
        x.nights(3);
        due("boatOf(0, 1)", x.boatOf(0, 1), 3);
        due("boatOf(0, 6)", x.boatOf(0, 6), 72);
    }

    private static void fears() {
        CHECK.begin("promise 20, fears");
        // 25 more a night and 1 less, to 99 at most and then 1 less; the coves beside 5 more and 1 less.
        CoastWatch x = new CoastWatch();
        x.row(0, 1);
        x.row(1, 1);
        x.put(1, 0, 20);
        for (int c = 0; c < 6; c++) {
            x.lead(c, c == 2 ? 1 : 0);
        }
        guardAll(x, 1);
        x.boat(20, 60, 99, 15);
        x.load(0, 1);
        int own = 0;
        int beside = 0;
        for (int night = 1; night <= 30; night++) {
            x.nights(1);
            own = Math.min(99, own + 25) - 1;
            beside = Math.min(99, beside + 5) - 1;
            due("FEAR of its own on night " + night, x.boatOf(0, 5), own);
            due("FEAR on one side on night " + night, x.boatOf(0, 4), beside);
            due("FEAR on the other side on night " + night, x.boatOf(0, 6), beside);
        }
        due("FEAR farther off", x.boatOf(0, 3), 0);
        due("FEAR farther off", x.boatOf(0, 7), 0);
        due("FEAR farther off", x.boatOf(0, 8), 0);
        due("boatOf(0, 1)", x.boatOf(0, 1), 30);
        // At the end coves there is but one beside.
        x = new CoastWatch();
        x.cove(5, 3, 11);
        guardAll(x, 1);
        loadedBoat(x, 0, 1);
        x.nights(1);
        due("FEAR of cove 5", x.boatOf(0, 8), 24);
        due("FEAR of cove 4", x.boatOf(0, 7), 4);
        due("FEAR of cove 0", x.boatOf(0, 3), 0);
        x.nights(3);
        due("FEAR of cove 5, three nights on", x.boatOf(0, 8), 21);
        due("FEAR of cove 4, three nights on", x.boatOf(0, 7), 1);
        x.nights(2);
        due("FEAR not below 0", x.boatOf(0, 7), 0);
        // From a cove without watchers those beside are seen as well.
        x = new CoastWatch();
        x.stand(1, 2);
        x.hide(0, 60, 1);
        loadedBoat(x, 0, 1);
        due("nights(1)", x.nights(1), 1);
        due("FEAR of cove 0", x.boatOf(0, 3), 0);
        due("FEAR of cove 1", x.boatOf(0, 4), 4);
    }

    private static void fullStore() {
        CHECK.begin("promise 20, 100 lots");
        CoastWatch x = new CoastWatch();
        x.hide(0, 200, 1);
        for (int b = 0; b < 8; b++) {
            x.boat(0, 60, 0, 15);
        }
        int came = 0;
        for (int night = 0; night < 13; night++) {
            for (int b = 0; b < 8; b++) {
                x.load(b, 1);
            }
            int now = x.nights(1);
            due("nights(1)", now, night < 12 ? 8 : 4);
            came += now;
        }
        due("came", came, 100);
        due("count(3)", x.count(3), 100);
        due("boatOf(3, 0)", x.boatOf(3, 0), 0);
        due("boatOf(4, 0)", x.boatOf(4, 0), 1);
        x.stand(0, 5);
        due("nights(5)", x.nights(5), 0);
        due("boatOf(7, 0)", x.boatOf(7, 0), 1);
        due("boatOf(7, 1)", x.boatOf(7, 1), 0);
        due("boatOf(7, 2)", x.boatOf(7, 2), 0);
        due("boatOf(7, 3)", x.boatOf(7, 3), 0);
        due("lotOf(99, 0)", x.lotOf(99, 0), 3);
        due("landed(0, 2)", x.landed(0, 2), 100);
        due("landed(0, 3)", x.landed(0, 3), 0);
        x.word(0, 19, 5);
        due("nights(1)", x.nights(1), 0);
        due("a word is wrong", x.count(6), 1);
        due("lotOf(100, 0)", x.lotOf(100, 0), -1);
        due("search(0)", x.search(0), 100);
    }

    private static void search() {
        CHECK.begin("promise 21");
        CoastWatch x = new CoastWatch();
        x.hide(0, 60, 1);
        x.hide(1, 60, 1);
        x.price(7);
        x.law(50, 50, 0);
        x.law(33, 67, 2);
        x.law(99, 0, 3);
        loadedBoat(x, 0, 1);
        loadedBoat(x, 0, 2);
        for (int i = 0; i < 3; i++) {
            x.word(i, 1, 0);
        }
        due("nights(2)", x.nights(2), 2);
        due("GUESS", x.hideOf(0, 1), 30);
        due("coins(1), nothing found yet", x.coins(1), 0);
        due("search(1)", x.search(1), 0);
        due("search(0)", x.search(0), 3);
        due("GUESS", x.hideOf(0, 1), 15);
        // As of night 2: 33 hundredths of 7 and of 14, each cut; nothing for an informer.
        due("coins(0)", x.coins(0), 2 + 4);
        due("coins(1)", x.coins(1), 5 + 10);
        for (int i = 0; i < 6; i++) {
            due("coins of informer " + i, x.coins(2 + i), 0);
        }
        due("search(0) again", x.search(0), 0);
        due("GUESS", x.hideOf(0, 1), 7);
        due("coins(0)", x.coins(0), 6);
        due("hideOf(0, 0)", x.hideOf(0, 0), 0);
        due("lotOf(1, 4)", x.lotOf(1, 4), 2);
        // The room is free again.
        x.load(0, 60);
        due("nights(1)", x.nights(1), 1);
        due("lotOf(2, 5)", x.lotOf(2, 5), 0);
        due("search(0)", x.search(0), 60);
    }

    /** Three hides: guesses 20, 10 and 10 at coves 0, 1 and 1. */
    private static void best() {
        CHECK.begin("promise 22");
        CoastWatch x = new CoastWatch();
        due("best(0), no hides", x.best(0), 0);
        due("best(100), no hides", x.best(100), 0);
        x.hide(2, 60, 1);
        x.hide(0, 60, 6);
        x.hide(1, 60, 3);
        x.hide(1, 60, 3);
        due("best(100), nothing guessed", x.best(100), 0);
        loadedBoat(x, 0, 1);
        x.word(0, 1, 0);
        x.word(1, 1, 0);
        due("nights(1)", x.nights(1), 1);
        x.cove(1, 3, 99);
        x.load(0, 1);
        x.word(0, 2, 1);
        due("nights(1)", x.nights(1), 1);
        due("GUESS of 1", x.hideOf(1, 1), 20);
        due("GUESS of 2", x.hideOf(2, 1), 10);
        due("GUESS of 3", x.hideOf(3, 1), 10);
        due("best(2)", x.best(2), 0);
        due("best(3), the least as bits", x.best(3), 4);
        due("best(5)", x.best(5), 4);
        due("best(6), the fewest", x.best(6), 2);
        due("best(8)", x.best(8), 2);
        due("best(9)", x.best(9), 6);
        due("best(11)", x.best(11), 6);
        due("best(12), not one without a guess", x.best(12), 14);
        due("best(100)", x.best(100), 14);
        due("GUESS stays", x.hideOf(1, 1), 20);
        // The fewest, though it is the greater number; hide 0 is in sets as well; less after a search.
        x = new CoastWatch();
        x.hide(0, 60, 3);
        x.hide(0, 60, 3);
        x.hide(1, 60, 6);
        loadedBoat(x, 0, 1);
        x.word(0, 1, 0);
        x.word(0, 2, 1);
        x.word(1, 2, 1);
        x.nights(1);
        x.cove(1, 3, 99);
        x.load(0, 1);
        x.nights(1);
        due("GUESS of 0", x.hideOf(0, 1), 10);
        due("GUESS of 1", x.hideOf(1, 1), 10);
        due("GUESS of 2", x.hideOf(2, 1), 20);
        due("best(3)", x.best(3), 1);
        due("best(6)", x.best(6), 4);
        due("best(9)", x.best(9), 5);
        due("best(12)", x.best(12), 7);
        x.search(2);
        due("best(6) after a search", x.best(6), 3);
        due("best(9) after a search", x.best(9), 3);
        for (int i = 0; i < 6; i++) {
            x.search(2);
        }
        due("best(12) of what is left", x.best(12), 3);
        // All twelve.
        x = new CoastWatch();
        for (int h = 0; h < 12; h++) {
            x.hide(0, 60, 8);
        }
        loadedBoat(x, 0, 1);
        x.word(0, 1, 0);
        x.nights(1);
        due("best(100) of twelve", x.best(100), 4095);
        due("best(95) of twelve", x.best(95), 2047);
    }

    private static void belief() {
        CHECK.begin("promise 23");
        CoastWatch x = new CoastWatch();
        due("belief(0, 0, 0)", x.belief(0, 0, 0), 0);
        due("belief(0, 0, 1)", x.belief(0, 0, 1), 1);
        due("belief(5, 1000, 0)", x.belief(5, 1000, 0), 0);
        due("belief(5, 1000, 1)", x.belief(5, 1000, 1), 1);
        for (int i = 0; i < 6; i++) {
            x.word(i, 9, 4);
        }
        due("belief(4, 9, 0)", x.belief(4, 9, 0), 63);
        due("belief(4, 9, 1)", x.belief(4, 9, 1), 64);
        due("belief(3, 9, 0)", x.belief(3, 9, 0), 0);
        due("belief(4, 8, 0)", x.belief(4, 8, 0), 0);
        // Weights as they are now: informer 0 is right once, 1 is wrong once.
        x = new CoastWatch();
        x.hide(0, 9, 1);
        loadedBoat(x, 0, 3);
        x.word(0, 1, 0);
        x.word(1, 1, 1);
        x.word(0, 1000, 5);
        x.word(1, 1000, 5);
        due("belief before", x.belief(5, 1000, 0), 3);
        due("belief before", x.belief(5, 1000, 1), 4);
        x.nights(1);
        // 1 less (1/3 times 2/3).
        due("belief after", x.belief(5, 1000, 0), 7);
        due("belief after", x.belief(5, 1000, 1), 9);
        due("belief of the night that passed", x.belief(0, 1, 0), 2);
        due("belief of the night that passed", x.belief(0, 1, 1), 3);
    }

    private static void weight() {
        CHECK.begin("promise 24");
        CoastWatch x = new CoastWatch();
        due("weight(0, 0)", x.weight(0, 0), 1);
        due("weight(5, 1)", x.weight(5, 1), 2);
        x.word(3, 1, 0);
        x.word(3, 1, 1);
        x.word(3, 1, 2);
        x.word(3, 1, 3);
        x.word(3, 2, 4);
        due("words that are not proved", x.weight(3, 1), 2);
        x.nights(1);
        // 1 by 6.
        due("weight(3, 0)", x.weight(3, 0), 1);
        due("weight(3, 1)", x.weight(3, 1), 6);
        x.hide(4, 9, 1);
        x.cove(4, 3, 99);
        loadedBoat(x, 0, 3);
        x.nights(1);
        // 2 by 7.
        due("weight(3, 0)", x.weight(3, 0), 2);
        due("weight(3, 1)", x.weight(3, 1), 7);
        x.load(0, 3);
        x.word(3, 3, 4);
        x.nights(1);
        // 3 by 8; then 4 by 9 and 4 by 10, which is 2 by 5.
        due("weight(3, 0)", x.weight(3, 0), 3);
        x.load(0, 3);
        x.word(3, 4, 4);
        x.word(3, 5, 4);
        x.nights(2);
        due("weight(3, 0)", x.weight(3, 0), 2);
        due("weight(3, 1)", x.weight(3, 1), 5);
        // A boat that gets away brought nothing.
        x = new CoastWatch();
        guardAll(x, 1);
        loadedBoat(x, 99, 3);
        x.word(0, 1, 0);
        x.nights(1);
        due("count(6)", x.count(6), 1);
        due("count(5)", x.count(5), 0);
        due("weight(0, 1)", x.weight(0, 1), 3);
        due("belief of the first word", x.belief(0, 1, 1), 3);
    }

    private static void value() {
        CHECK.begin("promise 25");
        CoastWatch x = new CoastWatch();
        due("value(0, 1, 0)", x.value(0, 1, 0), 10);
        due("value(0, 99, 1)", x.value(0, 99, 1), 1);
        due("value(6, 1, 0)", x.value(6, 1, 0), -1);
        due("value(6, 1, 1)", x.value(6, 1, 1), 1);
        // Six times (10 less v) by 20 is 3: v is 0.
        due("value(3, 10, 0)", x.value(3, 10, 0), 0);
        due("value(3, 10, 1)", x.value(3, 10, 1), 1);
        // Cove 0 alone: (99 less v) by 100 is 1 at v -1, but others gain 10.
        x.cove(0, 3, 99);
        due("value(0, 1, 0)", x.value(0, 1, 0), 99);
        // All six: (99/100 and 5 times 10/11, less 1) by (1/100 and 5/11).
        due("value(1, 1, 0)", x.value(1, 1, 0), 4989);
        due("value(1, 1, 1)", x.value(1, 1, 1), 511);
        // The others' worth is just what the first two leave.
        x = new CoastWatch();
        for (int c = 0; c < 6; c++) {
            x.cove(c, 3, c < 2 ? 90 : 40);
        }
        due("value(1, 10, 0)", x.value(1, 10, 0), 40);
        due("value(1, 10, 1)", x.value(1, 10, 1), 1);
        // Two, four, five and six coves watched, whatever the order of their worths.
        int[] worths = {5, 80, 40, 20, 10, 90};
        long[] above = {90, 7191, 6608814, 148926891, 893685579, 99740115, -3};
        long[] below = {1, 176, 341759, 16519825, 231401783, 231401783, 1};
        for (int turn = 0; turn < 6; turn++) {
            for (int c = 0; c < 6; c++) {
                x.cove((c + turn) % 6, 3, worths[c]);
            }
            for (int k = 0; k <= 6; k++) {
                due("value(" + k + ", 3, 0), turn " + turn, x.value(k, 3, 0), above[k]);
                due("value(" + k + ", 3, 1), turn " + turn, x.value(k, 3, 1), below[k]);
            }
        }
        // Below 0, and not whole.
        x = new CoastWatch();
        due("value(5, 30, 0)", x.value(5, 30, 0), -70);
        due("value(5, 30, 1)", x.value(5, 30, 1), 3);
        // Three watched of worths that run upwards.
        int[] up = {1, 2, 3, 50, 60, 99};
        for (int c = 0; c < 6; c++) {
            x.cove(c, 3, up[c]);
        }
        due("value(2, 7, 0)", x.value(2, 7, 0), 286073);
        due("value(2, 7, 1)", x.value(2, 7, 1), 16963);
    }

    private static void chance() {
        CHECK.begin("promise 26");
        CoastWatch x = new CoastWatch();
        for (int c = 0; c < 6; c++) {
            due("chance of K 0", x.chance(c, 0, 10, 0), 0);
            due("chance of K 0", x.chance(c, 0, 10, 1), 1);
            due("chance of K 6", x.chance(c, 6, 10, 0), 1);
            due("chance of K 6", x.chance(c, 6, 10, 1), 1);
            due("chance of K 4", x.chance(c, 4, 10, 0), 2);
            due("chance of K 4", x.chance(c, 4, 10, 1), 3);
        }
        for (int c = 0; c < 6; c++) {
            x.cove(c, 3, c < 2 ? 90 : 40);
        }
        due("chance(1, 1, 10, 0)", x.chance(1, 1, 10, 0), 1);
        due("chance(1, 1, 10, 1)", x.chance(1, 1, 10, 1), 2);
        due("chance(5, 1, 10, 0)", x.chance(5, 1, 10, 0), 0);
        due("chance(5, 1, 10, 1)", x.chance(5, 1, 10, 1), 1);
        x.cove(5, 3, 1);
        due("chance below 0", x.chance(5, 1, 10, 0), 0);
        int[] up = {1, 2, 3, 50, 60, 99};
        int[] above = {0, 0, 0, 9861, 10921, 13144};
        for (int c = 0; c < 6; c++) {
            x.cove(c, 3, up[c]);
        }
        for (int c = 0; c < 6; c++) {
            due("chance(" + c + ", 2, 7, 0)", x.chance(c, 2, 7, 0), above[c]);
            due("chance(" + c + ", 2, 7, 1)", x.chance(c, 2, 7, 1), above[c] == 0 ? 1 : 16963);
        }
    }

    private static void used() {
        CHECK.begin("promise 27");
        CoastWatch x = new CoastWatch();
        due("used(0, 0, 0, 0)", x.used(0, 0, 0, 0), 1);
        due("used(33, 100000, 100000, 100000)", x.used(33, 100000, 100000, 100000), 1);
        due("landed(33, 0)", x.landed(33, 0), 0);
        due("used(33, 5, 100000, 1)", x.used(33, 5, 100000, 1), 1);
        due("landed(33, 0)", x.landed(33, 0), 4);
        due("landed(33, 1)", x.landed(33, 1), 99999);
        due("landed(32, 1)", x.landed(32, 1), 0);
    }

    private static void landed() {
        CHECK.begin("promise 28");
        CoastWatch x = new CoastWatch();
        x.hide(0, 60, 1);
        x.hide(0, 60, 1);
        x.boat(0, 60, 0, 15);
        x.load(0, 7);
        x.nights(1);
        x.load(0, 60);
        x.nights(1);
        x.stand(0, 1);
        x.cove(0, 3, 99);
        x.load(0, 5);
        x.nights(1);
        due("landed(0, 2)", x.landed(0, 2), 67);
        due("landed(0, 3)", x.landed(0, 3), 5);
        due("landed(0, 0), nothing told", x.landed(0, 0), 0);
        x.search(0);
        due("landed(0, 2)", x.landed(0, 2), 60);
        due("landed(0, 3)", x.landed(0, 3), 12);
        x.used(0, 20, 40, 10);
        due("landed(0, 0), not below 0", x.landed(0, 0), 0);
        due("landed(0, 1)", x.landed(0, 1), 18);
        // Night 29 is of season 0, night 30 of season 1.
        x = new CoastWatch();
        x.hide(0, 60, 1);
        x.boat(0, 60, 0, 15);
        x.nights(28);
        x.load(0, 3);
        x.nights(1);
        x.load(0, 4);
        x.nights(1);
        due("lotOf(1, 2)", x.lotOf(1, 2), 30);
        due("landed(0, 2)", x.landed(0, 2), 3);
        due("landed(1, 2)", x.landed(1, 2), 4);
        x.search(0);
        due("landed(0, 3)", x.landed(0, 3), 3);
        due("landed(1, 3)", x.landed(1, 3), 4);
        due("landed(1, 2)", x.landed(1, 2), 0);
    }

    private static void lotOf() {
        CHECK.begin("promise 29");
        CoastWatch x = new CoastWatch();
        x.hide(3, 60, 1);
        x.cove(3, 3, 99);
        x.boat(0, 60, 0, 15);
        loadedBoat(x, 0, 7);
        x.nights(2);
        x.stand(3, 1);
        x.load(1, 9);
        x.nights(1);
        int[] hidden = {1, 7, 1, 3, 0, 0};
        int[] taken = {1, 9, 3, 3, 1, -9};
        for (int what = 0; what < 6; what++) {
            due("lotOf(0, " + what + ")", x.lotOf(0, what), hidden[what]);
            due("lotOf(1, " + what + ")", x.lotOf(1, what), taken[what]);
        }
        x.search(0);
        due("lotOf(0, 4)", x.lotOf(0, 4), 2);
        due("lotOf(0, 5)", x.lotOf(0, 5), 0);
        due("lotOf(1, 4)", x.lotOf(1, 4), 1);
        due("lotOf(2, 0)", x.lotOf(2, 0), -1);
    }

    private static void boatOf() {
        CHECK.begin("promise 30");
        CoastWatch x = new CoastWatch();
        x.stand(0, 2);
        x.cove(0, 3, 99);
        loadedBoat(x, 20, 7);
        x.nights(1);
        due("boatOf(0, 0)", x.boatOf(0, 0), 7);
        due("boatOf(0, 1)", x.boatOf(0, 1), 1);
        due("boatOf(0, 2)", x.boatOf(0, 2), 0);
        due("boatOf(0, 3)", x.boatOf(0, 3), 24);
        x.nights(2);
        due("boatOf(0, 1)", x.boatOf(0, 1), 1);
        due("boatOf(0, 2)", x.boatOf(0, 2), 2);
        // From cove 1 it saw the watchers of cove 0, twice.
        due("boatOf(0, 3)", x.boatOf(0, 3), 32);
        due("boatOf(0, 8)", x.boatOf(0, 8), 0);
        // A hide that is too small is as none.
        x.hide(1, 6, 1);
        x.nights(1);
        due("boatOf(0, 2)", x.boatOf(0, 2), 3);
        x.hide(1, 7, 1);
        due("nights(1)", x.nights(1), 1);
        due("boatOf(0, 0)", x.boatOf(0, 0), 0);
        due("boatOf(0, 2)", x.boatOf(0, 2), 3);
    }

    private static void hideOf() {
        CHECK.begin("promise 31");
        CoastWatch x = new CoastWatch();
        x.hide(4, 60, 1);
        x.hide(4, 60, 1);
        x.hide(3, 60, 1);
        x.cove(4, 3, 99);
        loadedBoat(x, 0, 7);
        x.word(0, 1, 4);
        x.word(5, 1, 4);
        x.word(5, 1, 3);
        x.nights(1);
        due("hideOf(0, 0)", x.hideOf(0, 0), 7);
        due("hideOf(0, 1)", x.hideOf(0, 1), 20);
        due("hideOf(0, 2)", x.hideOf(0, 2), 4);
        due("hideOf(1, 0)", x.hideOf(1, 0), 0);
        due("hideOf(1, 1)", x.hideOf(1, 1), 20);
        due("hideOf(2, 1)", x.hideOf(2, 1), 0);
        due("hideOf(2, 2)", x.hideOf(2, 2), 3);
        x.load(0, 8);
        x.nights(1);
        due("hideOf(0, 0)", x.hideOf(0, 0), 15);
        due("hideOf(0, 1), no word", x.hideOf(0, 1), 20);
    }

    private static void watched() {
        CHECK.begin("promise 32");
        CoastWatch x = new CoastWatch();
        x.stand(2, 9);
        x.share(2, 1);
        x.draws(9);
        x.bribe(2, true);
        due("watched(2), no night yet", x.watched(2), 0);
        x.nights(1);
        due("watched(2)", x.watched(2), 18);
        x.draws(0);
        due("watched(2), latest night", x.watched(2), 18);
        x.nights(1);
        due("watched(2)", x.watched(2), 9);
    }

    private static void coins() {
        CHECK.begin("promise 33");
        CoastWatch x = new CoastWatch();
        guardAll(x, 1);
        x.price(1);
        x.law(99, 1, 0);
        x.word(5, 1, 0);
        loadedBoat(x, 0, 50);
        x.nights(1);
        // 49.5 and 0.5, cut; the crown has what is left.
        due("coins(0)", x.coins(0), 49);
        due("coins(1)", x.coins(1), 1);
        due("coins(7)", x.coins(7), 0);
        x.price(10);
        x.load(0, 50);
        x.word(5, 2, 2);
        x.nights(1);
        due("lotOf(1, 3)", x.lotOf(1, 3), 2);
        due("coins(0)", x.coins(0), 49 + 495);
        due("coins(1)", x.coins(1), 1);
        due("coins(7)", x.coins(7), 5);
        // The first word of all is that of informer 1.
        x = new CoastWatch();
        guardAll(x, 1);
        x.price(999);
        x.law(50, 37, 0);
        x.word(1, 1, 0);
        loadedBoat(x, 0, 60);
        x.nights(1);
        due("coins(0)", x.coins(0), 29970);
        due("coins(3)", x.coins(3), 22177);
        due("coins(1)", x.coins(1), 59940 - 29970 - 22177);
    }

    private static void count() {
        CHECK.begin("promise 34");
        CoastWatch x = new CoastWatch();
        due("count(10)", x.count(10), -9);
        due("count(18)", x.count(18), -9);
        due("count(-1)", x.count(-1), -9);
        due("count(least)", x.count(Integer.MIN_VALUE), -9);
        due("count(most)", x.count(Integer.MAX_VALUE), -9);
        for (int what = 11; what <= 17; what++) {
            due("-9 is no refusal", x.count(what), 0);
        }
        x.watched(6);
        x.coins(8);
        x.word(0, 1, 0);
        x.word(0, 1, 0);
        x.nights(0);
        x.put(0, 0, 0);
        x.draws(10);
        x.row(0, 0);
        x.put(0, 0, 0);
        x.put(0, 1, 0);
        int[] refused = {1, 1, 1, 1, 1, 1, 2};
        for (int i = 0; i < 7; i++) {
            due("count(" + (11 + i) + ")", x.count(11 + i), refused[i]);
        }
        int[] lights = {14, 0, 1, 14, 15, 14};
        int[] nights = {1, 15, 16, 29, 30, 31};
        for (int i = 0; i < 6; i++) {
            x.nights(nights[i] - x.count(0));
            due("count(0)", x.count(0), nights[i]);
            due("LIGHT of night " + nights[i], x.count(8), lights[i]);
        }
        x.seed(0x12345678);
        due("count(9)", x.count(9), 0x5678);
        x.seed(-1);
        due("count(9)", x.count(9), 65535);
    }
}
