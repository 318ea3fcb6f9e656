import java.util.ArrayList;
import java.util.Arrays;
import java.util.List;
import java.util.TreeMap;

/**
 * A call of the face in a story that goes before it: for each argument a good one, others that are taken, and
 * those that are refused with their numbers; and the order in which the document tells the refusals.
 */
final class Call {
    static final int NOBODY = -1;
    static final int OTHER = -2;
    static final int STATE = -3;
    static final int BELOW = -4;
    static final int MISSING = -5;
    static final int ROOM = -6;
    static final int BEYOND = -7;

    /** An argument: what the document calls it, the good one, the taken ones, and the refused ones' numbers. */
    record Argument(String name, int good, List<Integer> taken, TreeMap<Integer, Integer> refused) { }

    final int promise;
    final String words;
    final String name;
    final String[] story;
    final List<Integer> order;
    final List<Argument> arguments = new ArrayList<>();
    /** A refusal that fits whatever the arguments are, as where there is no room for one more; 0 without. */
    int always = 0;
    private long toldFrom = 0;

    private Call(int promise, String words, String name, String[] story, Integer... order) {
        this.promise = promise;
        this.words = words;
        this.name = name;
        this.story = story;
        this.order = Arrays.asList(order);
    }

    static Call of(int promise, String words, String name, String[] story, Integer... order) {
        return new Call(promise, words, name, story, order);
    }

    /** Numbers from least to most are taken; on either side the refusals of all up to the ends of an int. */
    Call range(String of, int least, int most, int good, int below, int above) {
        List<Integer> taken = new ArrayList<>();
        for (int n : new int[] {least, least + 1, most - 1, most}) {
            if (n >= least && n <= most && !taken.contains(n)) {
                taken.add(n);
            }
        }
        TreeMap<Integer, Integer> refused = new TreeMap<>();
        refused.put(Integer.MIN_VALUE, below);
        refused.put(least - 1, below);
        refused.put(most + 1, above);
        refused.put(Integer.MAX_VALUE, above);
        arguments.add(new Argument(of, good, taken, refused));
        return this;
    }

    /** A flag: 0 or 1, neither is refused. */
    Call flag(String of) {
        arguments.add(new Argument(of, 1, List.of(0, 1), new TreeMap<>()));
        return this;
    }

    Call number(String of, int least, int most, int good) {
        return range(of, least, most, good, BELOW, ROOM);
    }

    Call nobody(String of, int least, int most, int good) {
        return range(of, least, most, good, NOBODY, NOBODY);
    }

    Call other(String of, int least, int most, int good) {
        return range(of, least, most, good, OTHER, OTHER);
    }

    /** One more of the latest argument that is refused. */
    Call but(int n, int number) {
        Argument latest = arguments.get(arguments.size() - 1);
        latest.taken().remove(Integer.valueOf(n));
        latest.refused().put(n, number);
        return this;
    }

    Call always(int number) {
        always = number;
        return this;
    }

    /** Refusals are told as this less their numbers. */
    Call toldFrom(long sum) {
        toldFrom = sum;
        return this;
    }

    long answerOf(int number) {
        return toldFrom == 0 ? number : toldFrom - number;
    }

    int[] goodOnes() {
        return arguments.stream().mapToInt(Argument::good).toArray();
    }

    int[] goodOnesBut(int place, int n) {
        int[] all = goodOnes();
        all[place] = n;
        return all;
    }

    String line(int... all) {
        StringBuilder text = new StringBuilder(name);
        for (int n : all) {
            text.append(' ').append(n);
        }
        return text.toString();
    }

    /** The refusal that the document tells first of those that fit these arguments; 0 if none fits. */
    int first(int... all) {
        int first = always;
        for (int i = 0; i < all.length; i++) {
            int number = arguments.get(i).refused().getOrDefault(all[i], 0);
            if (number != 0 && (first == 0 || order.indexOf(number) < order.indexOf(first))) {
                first = number;
            }
        }
        return first;
    }

    String part() {
        return "Promise " + promise;
    }
}
