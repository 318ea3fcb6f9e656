/** A watch on a coast of six coves, night by night. What it must do stands in DOC.md. */
public final class CoastWatch {
    private static final int NOBODY = -1;
    private static final int OTHER = -2;
    private static final int STATE = -3;
    private static final int BELOW = -4;
    private static final int MISSING = -5;
    private static final int ROOM = -6;
    private static final int BEYOND = -7;

    /** An int answer that may be -1 by itself tells a refusal as this less the number. */
    private static final int INT_REFUSALS = 2000000000;
    /** The game's answers tell a refusal as this less the number. */
    private static final long GAME_REFUSALS = 4000000000000000000L;

    private static final int NOTHING = -9;
    private static final int NONE = -1;

    private static final int COVE_COUNT = 6;
    private static final int INFORMER_COUNT = 6;
    private static final int TABLE_COUNT = 4;
    private static final int ROW_MOST = 30;
    private static final int NUMBER_MOST = 20;
    private static final int BOAT_MOST = 8;
    private static final int HIDE_MOST = 12;
    private static final int LOT_MOST = 100;
    private static final int LAW_MOST = 20;
    private static final int WORD_MOST = 60;
    private static final int NIGHT_MOST = 1000;
    private static final int SEASON_COUNT = 34;
    private static final int SEASON_NIGHTS = 30;
    private static final int USED_MOST = 100000;
    private static final int FEAR_MOST = 99;
    private static final int GUESS_MOST = 999;
    private static final int HOURS_MOST = 100;

    private static final int IN_HIDE = 0;
    private static final int TAKEN_ON_SHORE = 1;
    private static final int FOUND_IN_HIDE = 2;

    private int night;
    private int seed;
    private int drawCount;
    private int casksPrice;
    private final int[] refusals;
    private final int[] purses;
    private final Tables tables;
    private final Coves coves;
    private final Boats boats;
    private final Hides hides;
    private final Lots lots;
    private final Laws laws;
    private final Words words;
    private final Seasons seasons;
    private final Game game;

    public CoastWatch() {
        night = 0;
        seed = 1;
        drawCount = 0;
        casksPrice = 0;
        refusals = new int[8];
        purses = new int[2 + INFORMER_COUNT];
        tables = new Tables();
        coves = new Coves();
        boats = new Boats();
        hides = new Hides();
        lots = new Lots();
        laws = new Laws();
        words = new Words();
        seasons = new Seasons();
        game = new Game();
    }

    // ---- the coast ----

    public int seed(int s) {
        int was = seed;
        seed = s;
        return was;
    }

    public int cove(int c, int depth, int worth) {
        if (!isCove(c)) {
            return refuse(NOBODY);
        }
        if (depth < 0 || worth < 1) {
            return refuse(BELOW);
        }
        if (depth > 9 || worth > 99) {
            return refuse(ROOM);
        }
        coves.depth[c] = depth;
        coves.worth[c] = worth;
        return 1;
    }

    public int row(int t, int n) {
        if (!isTable(t)) {
            return refuse(NOBODY);
        }
        if (n < 0) {
            return refuse(BELOW);
        }
        if (n > ROW_MOST) {
            return refuse(ROOM);
        }
        tables.begin(t, n);
        return n;
    }

    public int lose(int t) {
        if (!isTable(t)) {
            return refuse(NOBODY);
        }
        if (tables.isMissing(t)) {
            return 0;
        }
        tables.forget(t);
        return 1;
    }

    public int put(int t, int place, int n) {
        if (!isTable(t)) {
            return refuse(NOBODY);
        }
        if (tables.isMissing(t)) {
            return refuse(MISSING);
        }
        if (place < 0 || place >= tables.length[t]) {
            return refuse(BEYOND);
        }
        if (n < 0) {
            return refuse(BELOW);
        }
        if (n > NUMBER_MOST) {
            return refuse(ROOM);
        }
        int was = tables.numbers[t][place];
        tables.numbers[t][place] = n;
        return was;
    }

    public int copy(int t, int i, int u, int j, int n) {
        if (!isTable(t) || !isTable(u)) {
            return refuse(NOBODY);
        }
        if (tables.isMissing(t) || tables.isMissing(u)) {
            return refuse(MISSING);
        }
        if (!tables.hasPlaces(t, i, n) || !tables.hasPlaces(u, j, n)) {
            return refuse(BEYOND);
        }
        System.arraycopy(tables.numbers[t], i, tables.numbers[u], j, n);
        return n;
    }

    public int lead(int c, int t) {
        if (!isCove(c) || (t != NONE && !isTable(t))) {
            return INT_REFUSALS - refuse(NOBODY);
        }
        int was = coves.ledBy[c];
        coves.ledBy[c] = t;
        return was;
    }

    public int tide(int c, int night) {
        if (!isCove(c)) {
            return refuse(NOBODY);
        }
        if (night < 0) {
            return refuse(BELOW);
        }
        if (night > NIGHT_MOST) {
            return refuse(ROOM);
        }
        return tideAt(c, night);
    }

    // ---- boats and hides ----

    public int boat(int draught, int hold, int strength, int bold) {
        if (draught < 0 || hold < 1 || strength < 0 || bold < 0) {
            return refuse(BELOW);
        }
        if (draught > 20 || hold > 60 || strength > 99 || bold > 15 || boats.size >= BOAT_MOST) {
            return refuse(ROOM);
        }
        return boats.add(draught, hold, strength, bold);
    }

    public int load(int b, int casks) {
        if (!isBoat(b)) {
            return refuse(NOBODY);
        }
        if (casks < 0) {
            return refuse(BELOW);
        }
        if (casks > boats.hold[b] - boats.casks[b]) {
            return refuse(ROOM);
        }
        boats.casks[b] += casks;
        return boats.casks[b];
    }

    public int hide(int c, int room, int cost) {
        if (!isCove(c)) {
            return refuse(NOBODY);
        }
        if (room < 1 || cost < 1) {
            return refuse(BELOW);
        }
        if (room > 200 || cost > 20 || hides.size >= HIDE_MOST) {
            return refuse(ROOM);
        }
        return hides.add(c, room, cost);
    }

    // ---- the watch ----

    public int stand(int c, int n) {
        if (!isCove(c)) {
            return refuse(NOBODY);
        }
        if (n < 0) {
            return refuse(BELOW);
        }
        if (n > 9) {
            return refuse(ROOM);
        }
        int was = coves.standing[c];
        coves.standing[c] = n;
        return was;
    }

    public int bribe(int c, boolean on) {
        if (!isCove(c)) {
            return refuse(NOBODY);
        }
        if (coves.bribed[c] == on) {
            return 0;
        }
        coves.bribed[c] = on;
        return 1;
    }

    public int share(int c, int n) {
        if (!isCove(c)) {
            return refuse(NOBODY);
        }
        if (n < 0) {
            return refuse(BELOW);
        }
        if (n > 99) {
            return refuse(ROOM);
        }
        int was = coves.shares[c];
        coves.shares[c] = n;
        return was;
    }

    public int draws(int n) {
        if (n < 0) {
            return refuse(BELOW);
        }
        if (n > 9) {
            return refuse(ROOM);
        }
        int was = drawCount;
        drawCount = n;
        return was;
    }

    // ---- law and words ----

    public int price(int v) {
        if (v < 0) {
            return refuse(BELOW);
        }
        if (v > 999) {
            return refuse(ROOM);
        }
        int was = casksPrice;
        casksPrice = v;
        return was;
    }

    public int law(int crew, int informer, int night) {
        if (crew < 0 || informer < 0 || night < this.night) {
            return refuse(BELOW);
        }
        // The sum of two large parts would go round, so the second is set against what the first leaves.
        if (crew > 100 || informer > 100 - crew || night > NIGHT_MOST || laws.size >= LAW_MOST) {
            return refuse(ROOM);
        }
        return laws.add(crew, informer, night);
    }

    public int word(int informer, int night, int c) {
        if (!isInformer(informer) || !isCove(c)) {
            return refuse(NOBODY);
        }
        if (night <= this.night) {
            return refuse(BELOW);
        }
        if (night > NIGHT_MOST || words.size >= WORD_MOST) {
            return refuse(ROOM);
        }
        if (words.isToldBy(informer, night, c)) {
            return refuse(STATE);
        }
        return words.add(informer, night, c);
    }

    // ---- nights and searches ----

    public int nights(int n) {
        if (n < 1) {
            return refuse(BELOW);
        }
        if (n > NIGHT_MOST - night) {
            return refuse(ROOM);
        }
        int before = lots.size;
        for (int i = 0; i < n; i++) {
            passNight();
        }
        return lots.size - before;
    }

    public int search(int h) {
        if (!isHide(h)) {
            return refuse(NOBODY);
        }
        int found = 0;
        for (int lot = 0; lot < lots.size; lot++) {
            if (lots.liesIn(lot, h)) {
                lots.place[lot] = FOUND_IN_HIDE;
                found += lots.casks[lot];
                partSeized(lots.casks[lot], NONE);
            }
        }
        hides.lying[h] = 0;
        hides.guess[h] /= 2;
        return found;
    }

    public int best(int hours) {
        if (hours < 0) {
            return refuse(BELOW);
        }
        if (hours > HOURS_MOST) {
            return refuse(ROOM);
        }
        return hides.bestSet(hours);
    }

    // ---- beliefs and the game ----

    public long belief(int c, int night, int part) {
        if (!isCove(c)) {
            return refuse(NOBODY);
        }
        if (night < 0) {
            return refuse(BELOW);
        }
        if (night > NIGHT_MOST) {
            return refuse(ROOM);
        }
        if (!isPart(part)) {
            return refuse(OTHER);
        }
        long doubt = words.doubtAbove(night, c);
        long below = words.doubtBelow(night, c);
        return lowest(below - doubt, below, part);
    }

    public int weight(int informer, int part) {
        if (!isInformer(informer)) {
            return refuse(NOBODY);
        }
        if (!isPart(part)) {
            return refuse(OTHER);
        }
        return (int) lowest(words.right[informer] + 1, words.provedOf(informer) + 2, part);
    }

    public long value(int k, int fine, int part) {
        int refusal = gameRefusal(k, fine, part);
        if (refusal != 0) {
            return GAME_REFUSALS - refuse(refusal);
        }
        game.solve(coves.worth, k, fine);
        return lowest(game.above, game.below, part);
    }

    public long chance(int c, int k, int fine, int part) {
        int refusal = isCove(c) ? gameRefusal(k, fine, part) : NOBODY;
        if (refusal != 0) {
            return GAME_REFUSALS - refuse(refusal);
        }
        game.solve(coves.worth, k, fine);
        long above = coves.worth[c] * game.below - game.above;
        long below = (coves.worth[c] + fine) * game.below;
        return lowest(above < 0 ? 0 : above, below, part);
    }

    // ---- what got in ----

    public int used(int season, int least, int most, int byLaw) {
        if (!isSeason(season)) {
            return refuse(NOBODY);
        }
        if (least < 0 || most < 0 || byLaw < 0) {
            return refuse(BELOW);
        }
        if (least > USED_MOST || most > USED_MOST || byLaw > USED_MOST) {
            return refuse(ROOM);
        }
        if (least > most) {
            return refuse(STATE);
        }
        seasons.least[season] = least;
        seasons.most[season] = most;
        seasons.byLaw[season] = byLaw;
        return 1;
    }

    public int landed(int season, int what) {
        if (!isSeason(season)) {
            return refuse(NOBODY);
        }
        switch (what) {
            case 0:
                return seasons.landedOf(season, seasons.least[season], lots.seizedIn(season));
            case 1:
                return seasons.landedOf(season, seasons.most[season], lots.seizedIn(season));
            case 2:
                return lots.heldIn(season);
            case 3:
                return lots.seizedIn(season);
            default:
                return refuse(OTHER);
        }
    }

    // ---- what is told ----

    public int lotOf(int lot, int what) {
        if (lot < 0 || lot >= lots.size) {
            return refuse(NOBODY);
        }
        switch (what) {
            case 0:
                return lots.boat[lot];
            case 1:
                return lots.casks[lot];
            case 2:
                return lots.night[lot];
            case 3:
                return lots.cove[lot];
            case 4:
                return lots.place[lot];
            case 5:
                return lots.place[lot] == TAKEN_ON_SHORE ? NOTHING : lots.hide[lot];
            default:
                return refuse(OTHER);
        }
    }

    public int boatOf(int b, int what) {
        if (!isBoat(b)) {
            return refuse(NOBODY);
        }
        if (what >= 3 && what < 3 + COVE_COUNT) {
            return boats.fear[b][what - 3];
        }
        switch (what) {
            case 0:
                return boats.casks[b];
            case 1:
                return boats.escapes[b];
            case 2:
                return boats.returns[b];
            default:
                return refuse(OTHER);
        }
    }

    public int hideOf(int h, int what) {
        if (!isHide(h)) {
            return refuse(NOBODY);
        }
        switch (what) {
            case 0:
                return hides.lying[h];
            case 1:
                return hides.guess[h];
            case 2:
                return hides.cove[h];
            default:
                return refuse(OTHER);
        }
    }

    public int watched(int c) {
        return isCove(c) ? coves.watchers[c] : refuse(NOBODY);
    }

    public int coins(int what) {
        return what >= 0 && what < purses.length ? purses[what] : refuse(OTHER);
    }

    public int count(int what) {
        switch (what) {
            case 0:
                return night;
            case 1:
                return boats.size;
            case 2:
                return hides.size;
            case 3:
                return lots.size;
            case 4:
                return words.size;
            case 5:
                return words.rightOnes();
            case 6:
                return words.wrongOnes();
            case 7:
                return laws.size;
            case 8:
                return light();
            case 9:
                return seed & 0xFFFF;
            default:
                return what >= 11 && what <= 17 ? refusals[what - 10] : NOTHING;
        }
    }

    // ---- refusals ----

    /** Counts a refusal and gives its number back. */
    private int refuse(int number) {
        int kind = -number;
        if (kind >= 0 && kind < refusals.length) {
            refusals[kind]++;
        }
        return number;
    }

    private static boolean isCove(int c) {
        return c >= 0 && c < COVE_COUNT;
    }

    private static boolean isTable(int t) {
        return t >= 0 && t < TABLE_COUNT;
    }

    private static boolean isInformer(int informer) {
        return informer >= 0 && informer < INFORMER_COUNT;
    }

    private static boolean isSeason(int season) {
        return season >= 0 && season < SEASON_COUNT;
    }

    private static boolean isPart(int part) {
        return part == 0 || part == 1;
    }

    private boolean isBoat(int b) {
        return b >= 0 && b < boats.size;
    }

    private boolean isHide(int h) {
        return h >= 0 && h < hides.size;
    }

    /** The refusal that both calls of the game share; 0 if there is none. */
    private static int gameRefusal(int k, int fine, int part) {
        if (k < 0 || fine < 1) {
            return BELOW;
        }
        if (k > 6 || fine > 99) {
            return ROOM;
        }
        return isPart(part) ? 0 : OTHER;
    }

    // ---- fractions ----

    /** One part of a fraction without a common divisor; below is above 0. */
    private static long lowest(long above, long below, int part) {
        long divisor = commonDivisor(above < 0 ? -above : above, below);
        if (divisor <= 0) {
            return 0;
        }
        return (part == 0 ? above : below) / divisor;
    }

    private static long commonDivisor(long a, long b) {
        // Euclid's way takes fewer than 100 steps for any two longs.
        for (int step = 0; step < 100 && b != 0; step++) {
            long rest = a % b;
            a = b;
            b = rest;
        }
        return a;
    }

    // ---- a night ----

    private void passNight() {
        night++;
        placeWatchers();
        for (int b = 0; b < boats.size; b++) {
            sendOut(b);
        }
        boats.calm();
        proveWords();
    }

    private void placeWatchers() {
        for (int c = 0; c < COVE_COUNT; c++) {
            coves.watchers[c] = coves.standing[c];
        }
        int sum = coves.sumOfShares();
        if (sum == 0) {
            return;
        }
        for (int i = 0; i < drawCount; i++) {
            coves.watchers[coves.coveOfShare(drawBelow(sum))]++;
        }
    }

    private int drawBelow(int n) {
        seed = seed * 1103515245 + 12345;
        return n > 0 ? (seed >>> 16) % n : 0;
    }

    private int light() {
        int k = 15 - night % 30;
        return k < 0 ? -k : k;
    }

    private int tideAt(int c, int night) {
        int t = coves.ledBy[c];
        if (isTable(t) && tables.length[t] > 0) {
            return tables.numbers[t][night % tables.length[t]];
        }
        int k = (7 * night + 5 * c) % 24;
        return k <= 12 ? k : 24 - k;
    }

    private void sendOut(int b) {
        if (boats.casks[b] == 0 || lots.size >= LOT_MOST || light() > boats.bold[b]) {
            return;
        }
        int c = chosenCove(b);
        if (c == NONE) {
            return;
        }
        int counting = coves.countingAt(c);
        if (counting > 0) {
            meetWatchers(b, c, counting);
        } else {
            bringAshore(b, c);
        }
        lookAt(b, c - 1);
        lookAt(b, c + 1);
    }

    private int chosenCove(int b) {
        int chosen = NONE;
        for (int c = 0; c < COVE_COUNT; c++) {
            if (isOpen(b, c) && (chosen == NONE || isDearer(b, c, chosen))) {
                chosen = c;
            }
        }
        return chosen;
    }

    private boolean isOpen(int b, int c) {
        return tideAt(c, night) + coves.depth[c] >= boats.draught[b];
    }

    private boolean isDearer(int b, int c, int than) {
        int fear = boats.fear[b][c];
        int otherFear = boats.fear[b][than];
        return fear < otherFear || (fear == otherFear && coves.worth[c] > coves.worth[than]);
    }

    private void meetWatchers(int b, int c, int counting) {
        if (boats.strength[b] < 10 * counting) {
            int casks = boats.casks[b];
            lots.add(b, casks, night, c, TAKEN_ON_SHORE, NONE);
            partSeized(casks, words.firstInformer(night, c));
            boats.casks[b] = 0;
        } else {
            boats.escapes[b]++;
        }
        boats.frighten(b, c, 25);
    }

    private void bringAshore(int b, int c) {
        int casks = boats.casks[b];
        int h = hides.firstWithRoom(c, casks);
        if (h == NONE) {
            boats.returns[b]++;
            return;
        }
        lots.add(b, casks, night, c, IN_HIDE, h);
        hides.lying[h] += casks;
        boats.casks[b] = 0;
    }

    /** A bribed watcher is there to be seen, so all of them count here. */
    private void lookAt(int b, int c) {
        if (isCove(c) && coves.watchers[c] > 0) {
            boats.frighten(b, c, 5);
        }
    }

    private void partSeized(int casks, int informer) {
        int v = casks * casksPrice;
        int inForce = laws.inForceOn(night);
        int crew = 0;
        int told = 0;
        if (inForce != NONE) {
            crew = v * laws.crew[inForce] / 100;
            if (isInformer(informer)) {
                told = v * laws.informer[inForce] / 100;
                purses[2 + informer] += told;
            }
        }
        purses[0] += crew;
        purses[1] += v - crew - told;
    }

    private void proveWords() {
        for (int w = 0; w < words.size; w++) {
            if (words.night[w] == night) {
                int c = words.cove[w];
                boolean right = lots.cameTo(c, night);
                words.prove(w, right);
                if (right) {
                    hides.suspect(c);
                }
            }
        }
    }

    // ---- what it is made of ----

    private static final class Tables {
        final int[][] numbers = new int[TABLE_COUNT][ROW_MOST];
        /** How many numbers a row has; -1 while the table is missing. */
        final int[] length = new int[TABLE_COUNT];

        Tables() {
            for (int t = 0; t < TABLE_COUNT; t++) {
                length[t] = NONE;
            }
        }

        boolean isMissing(int t) {
            return length[t] < 0;
        }

        void begin(int t, int n) {
            length[t] = n;
            for (int place = 0; place < ROW_MOST; place++) {
                numbers[t][place] = 0;
            }
        }

        void forget(int t) {
            length[t] = NONE;
        }

        boolean hasPlaces(int t, int from, int n) {
            return n >= 0 && from >= 0 && from <= length[t] - n;
        }
    }

    private static final class Coves {
        final int[] depth = new int[COVE_COUNT];
        final int[] worth = new int[COVE_COUNT];
        final int[] ledBy = new int[COVE_COUNT];
        final int[] standing = new int[COVE_COUNT];
        final int[] shares = new int[COVE_COUNT];
        final boolean[] bribed = new boolean[COVE_COUNT];
        /** All that were there in the latest night, a bribed one too. */
        final int[] watchers = new int[COVE_COUNT];

        Coves() {
            for (int c = 0; c < COVE_COUNT; c++) {
                depth[c] = 3;
                worth[c] = 10;
                ledBy[c] = NONE;
            }
        }

        int sumOfShares() {
            int sum = 0;
            for (int c = 0; c < COVE_COUNT; c++) {
                sum += shares[c];
            }
            return sum;
        }

        int coveOfShare(int number) {
            int soFar = 0;
            for (int c = 0; c < COVE_COUNT; c++) {
                soFar += shares[c];
                if (soFar > number) {
                    return c;
                }
            }
            return COVE_COUNT - 1;
        }

        int countingAt(int c) {
            return bribed[c] && watchers[c] > 0 ? watchers[c] - 1 : watchers[c];
        }
    }

    private static final class Boats {
        int size = 0;
        final int[] draught = new int[BOAT_MOST];
        final int[] hold = new int[BOAT_MOST];
        final int[] strength = new int[BOAT_MOST];
        final int[] bold = new int[BOAT_MOST];
        final int[] casks = new int[BOAT_MOST];
        final int[] escapes = new int[BOAT_MOST];
        final int[] returns = new int[BOAT_MOST];
        final int[][] fear = new int[BOAT_MOST][COVE_COUNT];

        int add(int itsDraught, int itsHold, int itsStrength, int itsBold) {
            int b = size;
            if (b >= BOAT_MOST) {
                return NONE;
            }
            draught[b] = itsDraught;
            hold[b] = itsHold;
            strength[b] = itsStrength;
            bold[b] = itsBold;
            size = b + 1;
            return b;
        }

        void frighten(int b, int c, int more) {
            fear[b][c] = Math.min(FEAR_MOST, fear[b][c] + more);
        }

        void calm() {
            for (int b = 0; b < size; b++) {
                for (int c = 0; c < COVE_COUNT; c++) {
                    if (fear[b][c] > 0) {
                        fear[b][c]--;
                    }
                }
            }
        }
    }

    private static final class Hides {
        // A set's score is one number: guesses first, then fewer hides, then the smaller number as bits.
        private static final int GUESS_SHIFT = 20;
        private static final int SIZE_SHIFT = 13;
        private static final int SET_MASK = (1 << SIZE_SHIFT) - 1;

        int size = 0;
        final int[] cove = new int[HIDE_MOST];
        final int[] room = new int[HIDE_MOST];
        final int[] cost = new int[HIDE_MOST];
        final int[] guess = new int[HIDE_MOST];
        final int[] lying = new int[HIDE_MOST];
        private final long[] scores = new long[HOURS_MOST + 1];

        int add(int itsCove, int itsRoom, int itsCost) {
            int h = size;
            if (h >= HIDE_MOST) {
                return NONE;
            }
            cove[h] = itsCove;
            room[h] = itsRoom;
            cost[h] = itsCost;
            size = h + 1;
            return h;
        }

        int firstWithRoom(int c, int casks) {
            for (int h = 0; h < size; h++) {
                if (cove[h] == c && casks <= room[h] - lying[h]) {
                    return h;
                }
            }
            return NONE;
        }

        void suspect(int c) {
            for (int h = 0; h < size; h++) {
                if (cove[h] == c) {
                    guess[h] = Math.min(GUESS_MOST, guess[h] + 10);
                }
            }
        }

        /** Scores add up hide by hide, so the best score within each number of hours can be led on. */
        int bestSet(int hours) {
            int most = Math.min(hours, HOURS_MOST);
            for (int spent = 0; spent <= most; spent++) {
                scores[spent] = 0;
            }
            for (int h = 0; h < size; h++) {
                long gain = ((long) guess[h] << GUESS_SHIFT) - (1L << SIZE_SHIFT) - (1L << h);
                for (int spent = most; spent >= cost[h]; spent--) {
                    scores[spent] = Math.max(scores[spent], scores[spent - cost[h]] + gain);
                }
            }
            return most < 0 ? 0 : (int) (-scores[most] & SET_MASK);
        }
    }

    private static final class Lots {
        int size = 0;
        final int[] boat = new int[LOT_MOST];
        final int[] casks = new int[LOT_MOST];
        final int[] night = new int[LOT_MOST];
        final int[] cove = new int[LOT_MOST];
        final int[] place = new int[LOT_MOST];
        final int[] hide = new int[LOT_MOST];

        void add(int itsBoat, int itsCasks, int itsNight, int itsCove, int itsPlace, int itsHide) {
            if (size >= LOT_MOST) {
                return;
            }
            boat[size] = itsBoat;
            casks[size] = itsCasks;
            night[size] = itsNight;
            cove[size] = itsCove;
            place[size] = itsPlace;
            hide[size] = itsHide;
            size++;
        }

        boolean liesIn(int lot, int h) {
            return place[lot] == IN_HIDE && hide[lot] == h;
        }

        boolean cameTo(int c, int onNight) {
            for (int lot = 0; lot < size; lot++) {
                if (cove[lot] == c && night[lot] == onNight) {
                    return true;
                }
            }
            return false;
        }

        int heldIn(int season) {
            int sum = 0;
            for (int lot = 0; lot < size; lot++) {
                if (night[lot] / SEASON_NIGHTS == season && place[lot] == IN_HIDE) {
                    sum += casks[lot];
                }
            }
            return sum;
        }

        int seizedIn(int season) {
            int sum = 0;
            for (int lot = 0; lot < size; lot++) {
                if (night[lot] / SEASON_NIGHTS == season && place[lot] != IN_HIDE) {
                    sum += casks[lot];
                }
            }
            return sum;
        }
    }

    private static final class Laws {
        int size = 0;
        final int[] crew = new int[LAW_MOST];
        final int[] informer = new int[LAW_MOST];
        final int[] from = new int[LAW_MOST];

        int add(int itsCrew, int itsInformer, int itsNight) {
            int number = size;
            if (number >= LAW_MOST) {
                return NONE;
            }
            crew[number] = itsCrew;
            informer[number] = itsInformer;
            from[number] = itsNight;
            size = number + 1;
            return number;
        }

        int inForceOn(int night) {
            int inForce = NONE;
            for (int number = 0; number < size; number++) {
                if (from[number] <= night && (inForce == NONE || from[number] >= from[inForce])) {
                    inForce = number;
                }
            }
            return inForce;
        }
    }

    private static final class Words {
        int size = 0;
        final int[] informer = new int[WORD_MOST];
        final int[] night = new int[WORD_MOST];
        final int[] cove = new int[WORD_MOST];
        final int[] right = new int[INFORMER_COUNT];
        final int[] wrong = new int[INFORMER_COUNT];

        int add(int itsInformer, int itsNight, int itsCove) {
            int w = size;
            if (w >= WORD_MOST) {
                return NONE;
            }
            informer[w] = itsInformer;
            night[w] = itsNight;
            cove[w] = itsCove;
            size = w + 1;
            return w;
        }

        boolean names(int w, int onNight, int c) {
            return night[w] == onNight && cove[w] == c;
        }

        boolean isToldBy(int i, int onNight, int c) {
            for (int w = 0; w < size; w++) {
                if (informer[w] == i && names(w, onNight, c)) {
                    return true;
                }
            }
            return false;
        }

        int firstInformer(int onNight, int c) {
            for (int w = 0; w < size; w++) {
                if (names(w, onNight, c)) {
                    return informer[w];
                }
            }
            return NONE;
        }

        void prove(int w, boolean isRight) {
            if (isRight) {
                right[informer[w]]++;
            } else {
                wrong[informer[w]]++;
            }
        }

        int provedOf(int i) {
            return right[i] + wrong[i];
        }

        int rightOnes() {
            int sum = 0;
            for (int i = 0; i < INFORMER_COUNT; i++) {
                sum += right[i];
            }
            return sum;
        }

        int wrongOnes() {
            int sum = 0;
            for (int i = 0; i < INFORMER_COUNT; i++) {
                sum += wrong[i];
            }
            return sum;
        }

        /** Above the line of the product of (1 less weight): each informer tells a word but once. */
        long doubtAbove(int onNight, int c) {
            long product = 1;
            for (int w = 0; w < size; w++) {
                if (names(w, onNight, c)) {
                    product *= wrong[informer[w]] + 1;
                }
            }
            return product;
        }

        long doubtBelow(int onNight, int c) {
            long product = 1;
            for (int w = 0; w < size; w++) {
                if (names(w, onNight, c)) {
                    product *= provedOf(informer[w]) + 2;
                }
            }
            return product;
        }
    }

    private static final class Seasons {
        final int[] least = new int[SEASON_COUNT];
        final int[] most = new int[SEASON_COUNT];
        final int[] byLaw = new int[SEASON_COUNT];

        int landedOf(int season, int usedCasks, int seized) {
            return Math.max(0, usedCasks - byLaw[season] - seized);
        }
    }

    private static final class Game {
        private final int[] worths = new int[COVE_COUNT];
        /** The value of the game last solved, with common divisors; below is above 0. */
        long above = 0;
        long below = 1;

        /**
         * The value with the worthiest coves alone watched, more of them each time, is
         * (sum of worth/(worth+fine) less k) by (sum of 1/(worth+fine)); the first that leaves
         * no other cove above it is the least. With six coves each number stays below 10^16.
         */
        void solve(int[] worthOf, int k, int fine) {
            sortDown(worthOf);
            long product = 1;
            long gains = 0;
            long rates = 0;
            for (int m = 0; m < COVE_COUNT; m++) {
                long line = worths[m] + fine;
                gains = gains * line + worths[m] * product;
                rates = rates * line + product;
                product = product * line;
                above = gains - k * product;
                below = rates;
                if (m + 1 < COVE_COUNT && above >= worths[m + 1] * below) {
                    return;
                }
            }
        }

        private void sortDown(int[] worthOf) {
            for (int c = 0; c < COVE_COUNT; c++) {
                int place = c;
                for (int i = c; i > 0 && worths[i - 1] < worthOf[c]; i--) {
                    worths[i] = worths[i - 1];
                    place = i - 1;
                }
                worths[place] = worthOf[c];
            }
        }
    }
}
