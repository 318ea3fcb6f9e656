import java.util.ArrayList;
import java.util.HashMap;
import java.util.HashSet;
import java.util.List;
import java.util.Map;
import java.util.Set;

/**
 * Tests with names of their own. A name tells the part of DOC.md ("Terms", "Promise 7"), the words there
 * that the test is of, and which side of them is looked at; the words must stand in that part. With
 * -Dnames=true all names are told.
 */
final class Sentences {
    static final int PROMISES = 34;
    private static final Map<String, List<String>> QUOTED = new HashMap<>();
    private static boolean namesAlone = false;

    final Check check = new Check();
    private final Set<String> names = new HashSet<>();
    private final Set<String> tested = new HashSet<>();

    /** From here on tests are named and not run. */
    static void namesAlone() {
        namesAlone = true;
    }

    /** The words of that part that the tests named so far are of, once for each test. */
    static List<String> quotedOf(String part) {
        return QUOTED.getOrDefault(part, List.of());
    }

    Run run() {
        return new Run(check);
    }

    void test(String part, String words, String side, Runnable test) {
        QUOTED.computeIfAbsent(part, none -> new ArrayList<>()).add(words);
        tested.add(part);
        if (namesAlone) {
            return;
        }
        String name = part + ": \"" + words + "\", " + side;
        if (Boolean.getBoolean("names")) {
            System.out.println(name);
        }
        check.begin(name);
        check.holds("a name of its own", names.add(name));
        check.holds("the document says so", Document.says(part, words));
        int before = check.asked();
        try {
            test.run();
        } catch (RuntimeException broken) {
            check.holds("an end without " + broken + " of " + broken.getCause(), false);
        }
        check.holds("a look at an answer", check.asked() > before);
    }

    /** A test of a new object and the calls that it gets. */
    void lines(String part, String words, String side, String... lines) {
        test(part, words, side, () -> run().lines(lines));
    }

    static String[] both(String[] first, String... then) {
        List<String> all = new ArrayList<>(List.of(first));
        all.addAll(List.of(then));
        return all.toArray(new String[0]);
    }

    /** The lines once more for each number from 0 to most, which stands for #. */
    static String[] each(int most, String... lines) {
        List<String> all = new ArrayList<>();
        for (int n = 0; n <= most; n++) {
            for (String line : lines) {
                all.add(line.replace("#", Integer.toString(n)));
            }
        }
        return all.toArray(new String[0]);
    }

    void eachPromiseIsTested() {
        for (int number = 1; number <= PROMISES; number++) {
            check.begin("Promise " + number);
            check.holds("a test of its own", tested.contains("Promise " + number));
        }
    }

    void finish() {
        if (namesAlone) {
            return;
        }
        System.out.print(names.size() + " tests, ");
        check.finish();
    }
}
