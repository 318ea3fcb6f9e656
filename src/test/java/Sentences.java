import java.io.IOException;
import java.nio.file.Files;
import java.nio.file.Path;
import java.util.ArrayList;
import java.util.HashMap;
import java.util.HashSet;
import java.util.List;
import java.util.Map;
import java.util.Set;

/**
 * Tests with names of their own. A name tells the part of DOC.md ("Terms", "Promise 7"), the words there
 * that name the boundary, and which side of it is looked at; the words must stand in that part. With
 * -Dnames=true all names are told.
 */
final class Sentences {
    static final int PROMISES = 34;
    private static final Path DOCUMENT = Path.of("../shared/DOC.md");

    final Check check = new Check();
    private final Map<String, String> parts = new HashMap<>();
    private final Set<String> names = new HashSet<>();
    private final Set<String> tested = new HashSet<>();

    Sentences() {
        if (!Files.isReadable(DOCUMENT)) {
            System.out.println("no " + DOCUMENT + ": the words of the names are not looked up");
            return;
        }
        try {
            for (String part : Files.readString(DOCUMENT).split("\n## ")) {
                String title = part.lines().findFirst().orElse("");
                parts.put(title.replaceAll(":.*", ""), plain(part));
            }
        } catch (IOException broken) {
            throw new IllegalStateException(broken);
        }
    }

    private static String plain(String text) {
        return text.replaceAll("```(text)?", " ").replaceAll("\\s+", " ");
    }

    Run run() {
        return new Run(check);
    }

    void test(String part, String words, String side, Runnable test) {
        String name = part + ": \"" + words + "\", " + side;
        if (Boolean.getBoolean("names")) {
            System.out.println(name);
        }
        check.begin(name);
        check.holds("a name of its own", names.add(name));
        check.holds("the document says so", parts.isEmpty() || parts.getOrDefault(part, "").contains(words));
        tested.add(part);
        int before = check.asked();
        try {
            test.run();
        } catch (RuntimeException broken) {
            check.holds("an end without " + broken + " of " + broken.getCause(), false);
        }
        check.holds("a look at an answer", check.asked() > before);
    }

    /** A test of a new object and the calls that it gets. */
    void lines(String part, String words, String side, String... lines) {
        test(part, words, side, () -> run().lines(lines));
    }

    static String[] both(String[] first, String... then) {
        List<String> all = new ArrayList<>(List.of(first));
        all.addAll(List.of(then));
        return all.toArray(new String[0]);
    }

    /** The lines once more for each number from 0 to most, which stands for #. */
    static String[] each(int most, String... lines) {
        List<String> all = new ArrayList<>();
        for (int n = 0; n <= most; n++) {
            for (String line : lines) {
                all.add(line.replace("#", Integer.toString(n)));
            }
        }
        return all.toArray(new String[0]);
    }

    void eachPromiseIsTested() {
        for (int number = 1; number <= PROMISES; number++) {
            check.begin("Promise " + number);
            check.holds("a test of its own", tested.contains("Promise " + number));
        }
    }

    void finish() {
        System.out.print(names.size() + " tests, ");
        check.finish();
    }
}
