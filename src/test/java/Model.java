import java.math.BigInteger;
import java.util.ArrayList;
import java.util.Arrays;
import java.util.List;
import java.util.TreeSet;

/** A second program with CoastWatch's face, written from the document in another way: plain and slow. */
final class Model {
    private static final class Boat {
        int draught;
        int hold;
        int strength;
        int bold;
        int casks;
        int away;
        int home;
        int[] fear = new int[6];
    }

    private static final class Hide {
        int cove;
        int room;
        int cost;
        int guess;
    }

    private static final class Lot {
        int boat;
        int casks;
        int night;
        int cove;
        int lies;
        int hide = -9;
    }

    private record Law(int crew, int informer, int night) { }

    private record Word(int informer, int night, int cove) { }

    private int night = 0;
    private int seed = 1;
    private int drawn = 0;
    private int price = 0;
    private final int[] depth = {3, 3, 3, 3, 3, 3};
    private final int[] worth = {10, 10, 10, 10, 10, 10};
    private final int[] led = {-1, -1, -1, -1, -1, -1};
    private final int[] standing = new int[6];
    private final int[] share = new int[6];
    private final boolean[] bribed = new boolean[6];
    private int[] there = new int[6];
    private final int[][] tables = new int[4][];
    private final List<Boat> boats = new ArrayList<>();
    private final List<Hide> hides = new ArrayList<>();
    private final List<Lot> lots = new ArrayList<>();
    private final List<Law> laws = new ArrayList<>();
    private final List<Word> words = new ArrayList<>();
    private final int[] coins = new int[8];
    private final int[][] used = new int[34][3];
    private final int[] refusals = new int[8];

    private int no(int number) {
        refusals[-number]++;
        return number;
    }

    private static boolean out(int n, int least, int most) {
        return n < least || n > most;
    }

    /** -4 if one number is below its least, -6 if one is above its greatest, else 0. Three numbers to each. */
    private static int range(int... rows) {
        for (int i = 0; i < rows.length; i += 3) {
            if (rows[i] < rows[i + 1]) {
                return -4;
            }
        }
        for (int i = 0; i < rows.length; i += 3) {
            if (rows[i] > rows[i + 2]) {
                return -6;
            }
        }
        return 0;
    }

    public int seed(int s) {
        int was = seed;
        seed = s;
        return was;
    }

    public int cove(int c, int d, int w) {
        int r = out(c, 0, 5) ? -1 : range(d, 0, 9, w, 1, 99);
        if (r != 0) {
            return no(r);
        }
        depth[c] = d;
        worth[c] = w;
        return 1;
    }

    public int row(int t, int n) {
        int r = out(t, 0, 3) ? -1 : range(n, 0, 30);
        if (r != 0) {
            return no(r);
        }
        tables[t] = new int[n];
        return n;
    }

    public int lose(int t) {
        if (out(t, 0, 3)) {
            return no(-1);
        }
        int was = tables[t] == null ? 0 : 1;
        tables[t] = null;
        return was;
    }

    public int put(int t, int place, int n) {
        int r = out(t, 0, 3) ? -1 : tables[t] == null ? -5 : out(place, 0, tables[t].length - 1) ? -7 : range(n, 0, 20);
        if (r != 0) {
            return no(r);
        }
        int was = tables[t][place];
        tables[t][place] = n;
        return was;
    }

    public int copy(int t, int i, int u, int j, int n) {
        if (out(t, 0, 3) || out(u, 0, 3)) {
            return no(-1);
        }
        if (tables[t] == null || tables[u] == null) {
            return no(-5);
        }
        if (i < 0 || j < 0 || n < 0 || (long) i + n > tables[t].length || (long) j + n > tables[u].length) {
            return no(-7);
        }
        int[] were = tables[t].clone();
        for (int k = 0; k < n; k++) {
            tables[u][j + k] = were[i + k];
        }
        return n;
    }

    public int lead(int c, int t) {
        if (out(c, 0, 5) || out(t, -1, 3)) {
            return 2000000000 - no(-1);
        }
        int was = led[c];
        led[c] = t;
        return was;
    }

    private int height(int c, int n) {
        if (led[c] >= 0 && tables[led[c]] != null && tables[led[c]].length > 0) {
            return tables[led[c]][n % tables[led[c]].length];
        }
        return Math.min((7 * n + 5 * c) % 24, 24 - (7 * n + 5 * c) % 24);
    }

    public int tide(int c, int n) {
        int r = out(c, 0, 5) ? -1 : range(n, 0, 1000);
        return r != 0 ? no(r) : height(c, n);
    }

    public int boat(int draught, int hold, int strength, int bold) {
        int r = range(draught, 0, 20, hold, 1, 60, strength, 0, 99, bold, 0, 15, boats.size(), 0, 7);
        if (r != 0) {
            return no(r);
        }
        Boat b = new Boat();
        b.draught = draught;
        b.hold = hold;
        b.strength = strength;
        b.bold = bold;
        boats.add(b);
        return boats.indexOf(b);
    }

    public int load(int b, int casks) {
        int r = out(b, 0, boats.size() - 1) ? -1 : range(casks, 0, boats.get(b).hold - boats.get(b).casks);
        return r != 0 ? no(r) : (boats.get(b).casks += casks);
    }

    public int hide(int c, int room, int cost) {
        int r = out(c, 0, 5) ? -1 : range(room, 1, 200, cost, 1, 20, hides.size(), 0, 11);
        if (r != 0) {
            return no(r);
        }
        Hide h = new Hide();
        h.cove = c;
        h.room = room;
        h.cost = cost;
        hides.add(h);
        return hides.indexOf(h);
    }

    public int stand(int c, int n) {
        int r = out(c, 0, 5) ? -1 : range(n, 0, 9);
        if (r != 0) {
            return no(r);
        }
        int was = standing[c];
        standing[c] = n;
        return was;
    }

    public int bribe(int c, boolean on) {
        if (out(c, 0, 5)) {
            return no(-1);
        }
        boolean was = bribed[c];
        bribed[c] = on;
        return was == on ? 0 : 1;
    }

    public int share(int c, int n) {
        int r = out(c, 0, 5) ? -1 : range(n, 0, 99);
        if (r != 0) {
            return no(r);
        }
        int was = share[c];
        share[c] = n;
        return was;
    }

    public int draws(int n) {
        int r = range(n, 0, 9);
        if (r != 0) {
            return no(r);
        }
        int was = drawn;
        drawn = n;
        return was;
    }

    public int price(int v) {
        int r = range(v, 0, 999);
        if (r != 0) {
            return no(r);
        }
        int was = price;
        price = v;
        return was;
    }

    public int law(int crew, int informer, int from) {
        int together = (int) Math.min(1000L, (long) crew + informer);
        int r = range(crew, 0, 100, informer, 0, 100, from, night, 1000, Math.max(together, 0), 0, 100, laws.size(), 0, 19);
        if (r != 0) {
            return no(r);
        }
        laws.add(new Law(crew, informer, from));
        return laws.size() - 1;
    }

    public int word(int informer, int of, int c) {
        int r = out(informer, 0, 5) || out(c, 0, 5) ? -1 : range(of, night + 1, 1000, words.size(), 0, 59);
        if (r == 0 && words.contains(new Word(informer, of, c))) {
            r = -3;
        }
        if (r != 0) {
            return no(r);
        }
        words.add(new Word(informer, of, c));
        return words.size() - 1;
    }

    public int nights(int n) {
        int r = range(n, 1, 1000 - night);
        if (n > 0 && (long) night + n > 1000) {
            r = -6;
        }
        if (r != 0) {
            return no(r);
        }
        int before = lots.size();
        for (int i = 0; i < n; i++) {
            pass();
        }
        return lots.size() - before;
    }

    private void pass() {
        night = night + 1;
        watch();
        for (Boat b : boats) {
            if (b.casks > 0 && lots.size() < 100 && light() <= b.bold) {
                go(b);
            }
        }
        for (Boat b : boats) {
            for (int c = 0; c < 6; c++) {
                b.fear[c] = Math.max(0, b.fear[c] - 1);
            }
        }
        for (Word w : words) {
            if (w.night == night && right(w)) {
                for (Hide h : hides) {
                    h.guess = h.cove == w.cove ? Math.min(999, h.guess + 10) : h.guess;
                }
            }
        }
    }

    private void watch() {
        there = standing.clone();
        List<Integer> lines = new ArrayList<>();
        for (int c = 0; c < 6; c++) {
            for (int i = 0; i < share[c]; i++) {
                lines.add(c);
            }
        }
        for (int i = 0; i < drawn && !lines.isEmpty(); i++) {
            BigInteger next = BigInteger.valueOf(seed).multiply(BigInteger.valueOf(1103515245)).add(BigInteger.valueOf(12345));
            seed = next.intValue();
            long high = Integer.toUnsignedLong(seed) / 65536;
            there[lines.get((int) (high % lines.size()))]++;
        }
    }

    private int light() {
        return Math.abs(15 - night % 30);
    }

    private void go(Boat b) {
        TreeSet<Integer> open = new TreeSet<>((p, q) -> b.fear[p] != b.fear[q] ? b.fear[p] - b.fear[q]
                : worth[p] != worth[q] ? worth[q] - worth[p] : p - q);
        for (int c = 0; c < 6; c++) {
            if (height(c, night) + depth[c] >= b.draught) {
                open.add(c);
            }
        }
        if (open.isEmpty()) {
            return;
        }
        int c = open.first();
        int counting = Math.max(0, there[c] - (bribed[c] ? 1 : 0));
        if (counting == 0) {
            land(b, c);
        } else {
            if (b.strength >= 10 * counting) {
                b.away++;
            } else {
                Lot lot = lotFrom(b, c);
                lot.lies = 1;
                part(lot.casks, teller(c));
            }
            b.fear[c] = Math.min(99, b.fear[c] + 25);
        }
        for (int beside = 0; beside < 6; beside++) {
            if (Math.abs(beside - c) == 1 && there[beside] > 0) {
                b.fear[beside] = Math.min(99, b.fear[beside] + 5);
            }
        }
    }

    private void land(Boat b, int c) {
        for (Hide h : hides) {
            if (h.cove == c && lying(hides.indexOf(h)) + b.casks <= h.room) {
                lotFrom(b, c).hide = hides.indexOf(h);
                return;
            }
        }
        b.home++;
    }

    private Lot lotFrom(Boat b, int c) {
        Lot lot = new Lot();
        lot.boat = boats.indexOf(b);
        lot.casks = b.casks;
        lot.night = night;
        lot.cove = c;
        b.casks = 0;
        lots.add(lot);
        return lot;
    }

    private int teller(int c) {
        for (Word w : words) {
            if (w.night == night && w.cove == c) {
                return w.informer;
            }
        }
        return -1;
    }

    private void part(int casks, int informer) {
        Law law = new Law(0, 0, -1);
        for (Law l : laws) {
            if (l.night <= night && l.night >= law.night) {
                law = l;
            }
        }
        int v = casks * price;
        int crew = v * law.crew / 100;
        int told = informer < 0 ? 0 : v * law.informer / 100;
        coins[0] += crew;
        coins[1] += v - crew - told;
        if (informer >= 0) {
            coins[2 + informer] += told;
        }
    }

    private boolean right(Word w) {
        return lots.stream().anyMatch(lot -> lot.night == w.night && lot.cove == w.cove);
    }

    private int lying(int h) {
        return lots.stream().filter(lot -> lot.lies == 0 && lot.hide == h).mapToInt(lot -> lot.casks).sum();
    }

    public int search(int h) {
        if (out(h, 0, hides.size() - 1)) {
            return no(-1);
        }
        int found = lying(h);
        for (Lot lot : lots) {
            if (lot.lies == 0 && lot.hide == h) {
                lot.lies = 2;
                part(lot.casks, -1);
            }
        }
        hides.get(h).guess >>= 1;
        return found;
    }

    public int best(int hours) {
        int r = range(hours, 0, 100);
        if (r != 0) {
            return no(r);
        }
        int best = 0;
        int bestGuess = 0;
        for (int set = 1; set < 1 << hides.size(); set++) {
            int cost = 0;
            int guess = 0;
            for (int h = 0; h < hides.size(); h++) {
                if ((set >> h & 1) == 1) {
                    cost += hides.get(h).cost;
                    guess += hides.get(h).guess;
                }
            }
            boolean better = guess > bestGuess
                    || (guess == bestGuess && Integer.bitCount(set) < Integer.bitCount(best));
            if (cost <= hours && better) {
                best = set;
                bestGuess = guess;
            }
        }
        return best;
    }

    private static long lowest(BigInteger above, BigInteger below, int part) {
        BigInteger d = above.gcd(below);
        return (part == 0 ? above.divide(d) : below.divide(d)).longValueExact();
    }

    /** Of an informer: above the line, below the line. */
    private BigInteger[] weighed(int informer) {
        long all = words.stream().filter(w -> w.informer == informer && w.night <= night).count();
        long right = words.stream().filter(w -> w.informer == informer && w.night <= night && right(w)).count();
        return new BigInteger[] {BigInteger.valueOf(right + 1), BigInteger.valueOf(all + 2)};
    }

    public long belief(int c, int of, int part) {
        int r = out(c, 0, 5) ? -1 : range(of, 0, 1000);
        if (r == 0 && out(part, 0, 1)) {
            r = -2;
        }
        if (r != 0) {
            return no(r);
        }
        BigInteger above = BigInteger.ONE;
        BigInteger below = BigInteger.ONE;
        for (int i = 0; i < 6; i++) {
            if (words.contains(new Word(i, of, c))) {
                BigInteger[] w = weighed(i);
                above = above.multiply(w[1].subtract(w[0]));
                below = below.multiply(w[1]);
            }
        }
        return lowest(below.subtract(above), below, part);
    }

    public int weight(int informer, int part) {
        int r = out(informer, 0, 5) ? -1 : out(part, 0, 1) ? -2 : 0;
        if (r != 0) {
            return no(r);
        }
        BigInteger[] w = weighed(informer);
        return (int) lowest(w[0], w[1], part);
    }

    /** How many watchers hold all gains at v (above by below): above and below the line. */
    private BigInteger[] needed(BigInteger above, BigInteger below, int fine) {
        BigInteger a = BigInteger.ZERO;
        BigInteger b = BigInteger.ONE;
        for (int c = 0; c < 6; c++) {
            BigInteger top = BigInteger.valueOf(worth[c]).multiply(below).subtract(above).max(BigInteger.ZERO);
            BigInteger line = below.multiply(BigInteger.valueOf(worth[c] + fine));
            a = a.multiply(line).add(top.multiply(b));
            b = b.multiply(line);
        }
        return new BigInteger[] {a, b};
    }

    /** The value, above and below the line: between two worths, what is needed runs as a straight line. */
    private BigInteger[] solved(int k, int fine) {
        TreeSet<Integer> bends = new TreeSet<>(List.of(-fine));
        Arrays.stream(worth).forEach(bends::add);
        BigInteger watchers = BigInteger.valueOf(k);
        for (int low : bends) {
            BigInteger[] atLow = needed(BigInteger.valueOf(low), BigInteger.ONE, fine);
            if (atLow[0].compareTo(watchers.multiply(atLow[1])) <= 0) {
                return new BigInteger[] {BigInteger.valueOf(low), BigInteger.ONE};
            }
            int high = bends.higher(low);
            BigInteger[] atHigh = needed(BigInteger.valueOf(high), BigInteger.ONE, fine);
            if (atHigh[0].compareTo(watchers.multiply(atHigh[1])) < 0) {
                // low and (needed at low less k) by (needed at low less needed at high) of the way up.
                BigInteger a = atLow[0].subtract(watchers.multiply(atLow[1])).multiply(atHigh[1]);
                BigInteger b = atLow[0].multiply(atHigh[1]).subtract(atHigh[0].multiply(atLow[1]));
                BigInteger above = BigInteger.valueOf(low).multiply(b).add(a.multiply(BigInteger.valueOf(high - low)));
                return new BigInteger[] {above, b};
            }
        }
        throw new IllegalStateException("no value");
    }

    private int gameRange(int k, int fine, int part) {
        int r = range(k, 0, 6, fine, 1, 99);
        return r == 0 && out(part, 0, 1) ? -2 : r;
    }

    public long value(int k, int fine, int part) {
        int r = gameRange(k, fine, part);
        if (r != 0) {
            return 4000000000000000000L - no(r);
        }
        BigInteger[] v = solved(k, fine);
        return lowest(v[0], v[1], part);
    }

    public long chance(int c, int k, int fine, int part) {
        int r = out(c, 0, 5) ? -1 : gameRange(k, fine, part);
        if (r != 0) {
            return 4000000000000000000L - no(r);
        }
        BigInteger[] v = solved(k, fine);
        BigInteger above = BigInteger.valueOf(worth[c]).multiply(v[1]).subtract(v[0]).max(BigInteger.ZERO);
        return lowest(above, v[1].multiply(BigInteger.valueOf(worth[c] + fine)), part);
    }

    public int used(int season, int least, int most, int byLaw) {
        int r = out(season, 0, 33) ? -1 : range(least, 0, 100000, most, 0, 100000, byLaw, 0, 100000);
        if (r == 0 && least > most) {
            r = -3;
        }
        if (r != 0) {
            return no(r);
        }
        used[season] = new int[] {least, most, byLaw};
        return 1;
    }

    public int landed(int season, int what) {
        int r = out(season, 0, 33) ? -1 : out(what, 0, 3) ? -2 : 0;
        if (r != 0) {
            return no(r);
        }
        int[] casks = new int[3];
        for (Lot lot : lots) {
            if (lot.night / 30 == season) {
                casks[lot.lies] += lot.casks;
            }
        }
        int seized = casks[1] + casks[2];
        return what == 2 ? casks[0] : what == 3 ? seized : Math.max(0, used[season][what] - used[season][2] - seized);
    }

    public int lotOf(int lot, int what) {
        int r = out(lot, 0, lots.size() - 1) ? -1 : out(what, 0, 5) ? -2 : 0;
        if (r != 0) {
            return no(r);
        }
        Lot l = lots.get(lot);
        return new int[] {l.boat, l.casks, l.night, l.cove, l.lies, l.hide}[what];
    }

    public int boatOf(int b, int what) {
        int r = out(b, 0, boats.size() - 1) ? -1 : out(what, 0, 8) ? -2 : 0;
        if (r != 0) {
            return no(r);
        }
        Boat it = boats.get(b);
        return what > 2 ? it.fear[what - 3] : new int[] {it.casks, it.away, it.home}[what];
    }

    public int hideOf(int h, int what) {
        int r = out(h, 0, hides.size() - 1) ? -1 : out(what, 0, 2) ? -2 : 0;
        if (r != 0) {
            return no(r);
        }
        return new int[] {lying(h), hides.get(h).guess, hides.get(h).cove}[what];
    }

    public int watched(int c) {
        return out(c, 0, 5) ? no(-1) : there[c];
    }

    public int coins(int what) {
        return out(what, 0, 7) ? no(-2) : coins[what];
    }

    public int count(int what) {
        int proved = (int) words.stream().filter(w -> w.night <= night).count();
        int right = (int) words.stream().filter(w -> w.night <= night && right(w)).count();
        int[] first = {night, boats.size(), hides.size(), lots.size(), words.size(), right, proved - right, laws.size(),
            light(), Math.floorMod(seed, 65536)};
        if (!out(what, 0, 9)) {
            return first[what];
        }
        return out(what, 11, 17) ? -9 : refusals[what - 10];
    }
}
