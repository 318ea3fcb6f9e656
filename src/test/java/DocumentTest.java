import java.util.ArrayList;
import java.util.List;

/** DOC.md from its first line to its last: each sentence that promises something is named by a test. */
public final class DocumentTest {
    /** A name that quotes more words than so many is of no sentence of its own. */
    private static final int WORDS = 60;
    private static final Check CHECK = new Check();
    private static int sentences = 0;

    public static void main(String[] args) {
        Sentences.namesAlone();
        TermsOfNightTest.main(args);
        TermsOfLawTest.main(args);
        StoryTest.main(args);
        AnswersTest.main(args);
        EdgesTest.main(args);
        OrderTest.main(args);
        UnchangedTest.main(args);
        CHECK.begin("document");
        CHECK.holds("there to be read", Document.isThere());
        part("What it is", Document.words("What it is"));
        part("Terms", Document.words("Terms"));
        for (int number = 1; number <= Sentences.PROMISES; number++) {
            // Its first words tell the call, which FaceTest looks at.
            part("Promise " + number, Document.words("Promise " + number).replaceFirst("^`[^`]*`: ", ""));
        }
        System.out.print(sentences + " sentences, ");
        CHECK.finish();
    }

    private static void part(String title, String words) {
        CHECK.begin(title);
        CHECK.holds("words", !words.isEmpty());
        boolean[] named = new boolean[words.length()];
        for (String quote : Sentences.quotedOf(title)) {
            CHECK.holds("a name of few words: " + quote, quote.split(" ").length <= WORDS);
            for (int at = words.indexOf(quote); at >= 0; at = words.indexOf(quote, at + 1)) {
                for (int i = at; i < at + quote.length(); i++) {
                    named[i] = true;
                }
            }
        }
        for (int[] span : spans(words)) {
            sentences++;
            StringBuilder left = new StringBuilder();
            for (int i = span[0]; i < span[1]; i++) {
                left.append(named[i] ? ' ' : words.charAt(i));
            }
            CHECK.holds("a test of \"" + words.substring(span[0], span[1]) + "\", where \"" + left.toString().trim()
                + "\" is left,", left.chars().noneMatch(Character::isLetterOrDigit));
        }
    }

    /** Where each sentence, or part of one that ends with ; or :, begins and ends. */
    private static List<int[]> spans(String words) {
        List<int[]> spans = new ArrayList<>();
        int begin = 0;
        for (int i = 0; i < words.length(); i++) {
            boolean last = i + 1 == words.length();
            boolean ends = ".;:".indexOf(words.charAt(i)) >= 0 && !last && words.charAt(i + 1) == ' ';
            if ((last || ends) && words.substring(begin, i + 1).chars().anyMatch(Character::isLetterOrDigit)) {
                spans.add(new int[] {begin, i + 1});
                begin = i + 1;
            }
        }
        return spans;
    }
}
