import java.io.IOException;
import java.nio.file.Files;
import java.nio.file.Path;
import java.util.ArrayList;
import java.util.List;
import java.util.TreeSet;
import java.util.regex.Matcher;
import java.util.regex.Pattern;
import java.util.stream.Stream;

/** README.md: each example answers what the page says, each call of the face has one, and each test is named. */
public final class ReadmeTest {
    private static final String MADE = "CoastWatch watch = new CoastWatch();";
    private static final Pattern ASKED = Pattern.compile("watch\\.(\\w+)\\(([^)]*)\\);\\s+// (-?\\d+)(?:: .+)?");
    private static final Check CHECK = new Check();

    public static void main(String[] args) throws IOException {
        List<String> page = Files.readAllLines(Path.of("README.md"));
        TreeSet<String> asked = new TreeSet<>();
        int examples = 0;
        for (List<String> example : examples(page)) {
            examples++;
            CHECK.begin("example " + examples);
            answers(example, asked);
        }
        CHECK.begin("README.md");
        CHECK.holds("an example", examples > 0);
        TreeSet<String> face = new TreeSet<>();
        for (String line : Document.face()) {
            face.add(line.replaceAll(".* (\\w+)\\(.*", "$1"));
        }
        CHECK.holds("an example of each call, " + asked + " of " + face, asked.equals(face));
        refusals(page);
        tests(page);
        System.out.print(examples + " examples, ");
        CHECK.finish();
    }

    private static List<List<String>> examples(List<String> page) {
        List<List<String>> examples = new ArrayList<>();
        boolean inside = false;
        for (String line : page) {
            if (line.equals("```java")) {
                examples.add(new ArrayList<>());
                inside = true;
            } else if (line.startsWith("```")) {
                inside = false;
            } else if (inside) {
                examples.get(examples.size() - 1).add(line);
            }
        }
        return examples;
    }

    private static void answers(List<String> example, TreeSet<String> asked) {
        CHECK.holds("an object of its own", !example.isEmpty() && example.get(0).equals(MADE));
        Run run = new Run(CHECK);
        for (String line : example.subList(1, example.size())) {
            Matcher call = ASKED.matcher(line);
            boolean isCall = call.matches();
            CHECK.holds("a call and its answer in \"" + line + "\"", isCall);
            if (isCall) {
                asked.add(call.group(1));
                run.due(call.group(1) + " " + call.group(2).replace(",", ""), Long.parseLong(call.group(3)));
            }
        }
    }

    /** The page tells each refusal by its number and name, and DOC.md has both. */
    private static void refusals(List<String> page) {
        int rows = 0;
        for (String line : page) {
            Matcher row = Pattern.compile("\\| (-\\d) \\| ([A-Z]+) \\| .+ \\|").matcher(line);
            if (row.matches()) {
                rows++;
                CHECK.holds("refusal " + row.group(1), Document.says("Terms", row.group(1) + " " + row.group(2) + ":"));
            }
        }
        CHECK.holds("seven refusals", rows == 7);
    }

    private static void tests(List<String> page) throws IOException {
        String all = String.join("\n", page);
        TreeSet<String> there = new TreeSet<>();
        try (Stream<Path> files = Files.list(Path.of("src/test/java"))) {
            files.map(file -> file.getFileName().toString()).filter(name -> name.endsWith("Test.java"))
                .forEach(name -> there.add(name.replace(".java", "")));
        }
        TreeSet<String> named = new TreeSet<>();
        Matcher name = Pattern.compile("`(\\w+Test)`").matcher(all);
        while (name.find()) {
            named.add(name.group(1));
        }
        CHECK.holds("the tests that there are, " + there + ", and those named, " + named, there.equals(named));
    }
}
