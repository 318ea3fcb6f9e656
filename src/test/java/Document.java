import java.io.IOException;
import java.nio.file.Files;
import java.nio.file.Path;
import java.util.ArrayList;
import java.util.LinkedHashMap;
import java.util.List;
import java.util.Map;

/** DOC.md by its parts: "What it is", "Terms", "Promise 7". Their words stand in one line, without the code signs. */
final class Document {
    private static final Path FILE = Path.of("../shared/DOC.md");
    private static final Map<String, String> PARTS = new LinkedHashMap<>();

    static {
        if (Files.isReadable(FILE)) {
            read();
        } else {
            System.out.println("no " + FILE + ": the words of the names are not looked up");
        }
    }

    private Document() { }

    private static void read() {
        try {
            for (String part : Files.readString(FILE).split("\n## ")) {
                int end = part.indexOf('\n');
                String title = (end < 0 ? part : part.substring(0, end)).replaceAll(":.*", "");
                PARTS.put(title, end < 0 ? "" : part.substring(end));
            }
        } catch (IOException broken) {
            throw new IllegalStateException(broken);
        }
    }

    static boolean isThere() {
        return !PARTS.isEmpty();
    }

    /** The words of a part, without its title; none if there is no such part. */
    static String words(String title) {
        return PARTS.getOrDefault(title, "").replaceAll("```(text|java)?", " ").replaceAll("\\s+", " ").trim();
    }

    static boolean says(String title, String words) {
        return !isThere() || words(title).contains(words);
    }

    /** The lines of "The public face" that tell a method, as "public int seed(int s);". */
    static List<String> face() {
        List<String> face = new ArrayList<>();
        for (String line : PARTS.getOrDefault("The public face", "").split("\n")) {
            if (line.trim().matches("public .*\\);") && !line.contains("CoastWatch()")) {
                face.add(line.trim());
            }
        }
        return face;
    }
}
