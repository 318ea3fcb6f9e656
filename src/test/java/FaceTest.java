import java.io.IOException;
import java.lang.reflect.Constructor;
import java.lang.reflect.Field;
import java.lang.reflect.Method;
import java.lang.reflect.Modifier;
import java.nio.charset.StandardCharsets;
import java.nio.file.Files;
import java.nio.file.Path;
import java.util.Arrays;
import java.util.List;
import java.util.TreeSet;
import java.util.regex.Matcher;
import java.util.regex.Pattern;

/** The public face as DOC.md writes it, and the rules of LANGUAGE.md that a test can see. */
public final class FaceTest {
    private static final String[] FACE = {
        "int seed(int)", "int cove(int,int,int)", "int row(int,int)", "int lose(int)", "int put(int,int,int)",
        "int copy(int,int,int,int,int)", "int lead(int,int)", "int tide(int,int)", "int boat(int,int,int,int)",
        "int load(int,int)", "int hide(int,int,int)", "int stand(int,int)", "int bribe(int,boolean)",
        "int share(int,int)", "int draws(int)", "int price(int)", "int law(int,int,int)", "int word(int,int,int)",
        "int nights(int)", "int search(int)", "int best(int)", "long belief(int,int,int)", "int weight(int,int)",
        "long value(int,int,int)", "long chance(int,int,int,int)", "int used(int,int,int,int)",
        "int landed(int,int)", "int lotOf(int,int)", "int boatOf(int,int)", "int hideOf(int,int)",
        "int watched(int)", "int coins(int)", "int count(int)",
    };
    private static final Path SOURCE = Path.of("src/main/java/CoastWatch.java");
    /** "Methods stay short (some sixty lines)". */
    private static final int LINES = 60;
    private static final Check CHECK = new Check();

    public static void main(String[] args) throws IOException {
        face();
        document();
        inside();
        source();
        CHECK.finish();
    }

    private static void face() {
        CHECK.begin("face");
        Class<?> type = CoastWatch.class;
        int kind = type.getModifiers();
        CHECK.holds("public and final", Modifier.isPublic(kind) && Modifier.isFinal(kind));
        Constructor<?>[] made = type.getDeclaredConstructors();
        CHECK.holds("one public constructor without arguments",
                made.length == 1 && Modifier.isPublic(made[0].getModifiers()) && made[0].getParameterCount() == 0);
        TreeSet<String> due = new TreeSet<>(Arrays.asList(FACE));
        TreeSet<String> is = new TreeSet<>();
        TreeSet<String> names = new TreeSet<>();
        for (Method method : type.getDeclaredMethods()) {
            if (Modifier.isPublic(method.getModifiers())) {
                is.add(line(method));
                names.add(method.getName());
            }
        }
        CHECK.holds("the face " + is, is.equals(due));
        for (Method method : type.getDeclaredMethods()) {
            boolean isPublic = Modifier.isPublic(method.getModifiers());
            CHECK.holds(method + " is private", isPublic || Modifier.isPrivate(method.getModifiers()));
            CHECK.holds(method + " has a name of its own", isPublic || !names.contains(method.getName()));
        }
        for (Field field : type.getDeclaredFields()) {
            CHECK.holds(field + " is private", Modifier.isPrivate(field.getModifiers()));
        }
    }

    /** The face above is the document's, with its arguments' names, and each promise tells its own call. */
    private static void document() throws IOException {
        CHECK.begin("document");
        List<String> face = Document.face();
        CHECK.holds("as many methods", face.size() == FACE.length);
        String text = Files.readString(SOURCE, StandardCharsets.UTF_8);
        CHECK.holds("the class", text.contains("\npublic final class CoastWatch {\n"));
        CHECK.holds("the constructor", text.contains("\n    public CoastWatch() {\n"));
        CHECK.holds("promise 1", Document.words("Promise 1").startsWith("`CoastWatch()`: "));
        for (int i = 0; i < face.size() && i < FACE.length; i++) {
            String told = face.get(i).replaceFirst("^public ", "").replaceFirst(";$", "");
            String types = told.replaceAll("(int|boolean) \\w+([,)])", "$1$2").replace(", ", ",");
            CHECK.holds(told + " is " + FACE[i], types.equals(FACE[i]));
            CHECK.holds(told + " in the class", text.contains("\n    public " + told + " {\n"));
            CHECK.holds(told + " in promise " + (i + 2),
                Document.words("Promise " + (i + 2)).startsWith("`" + told + "`: "));
        }
    }

    private static String line(Method method) {
        StringBuilder text = new StringBuilder(method.getReturnType() + " " + method.getName() + "(");
        for (Class<?> argument : method.getParameterTypes()) {
            text.append(text.charAt(text.length() - 1) == '(' ? "" : ",").append(argument);
        }
        return text.append(')').toString();
    }

    private static void inside() {
        CHECK.begin("classes inside");
        Class<?>[] inside = CoastWatch.class.getDeclaredClasses();
        CHECK.holds("twelve classes at most", inside.length <= 11);
        for (Class<?> type : inside) {
            int kind = type.getModifiers();
            CHECK.holds(type + " is static", Modifier.isStatic(kind));
            CHECK.holds(type + " is not public", !Modifier.isPublic(kind) && !Modifier.isProtected(kind));
        }
        for (Class<?> type : inside) {
            fields(type);
        }
        fields(CoastWatch.class);
    }

    private static void fields(Class<?> type) {
        int own = 0;
        for (Field field : type.getDeclaredFields()) {
            boolean isStatic = Modifier.isStatic(field.getModifiers());
            own += isStatic ? 0 : 1;
            CHECK.holds(field + " is final if static", !isStatic || Modifier.isFinal(field.getModifiers()));
        }
        CHECK.holds(type + " has some twenty fields at most", own <= 20);
        for (Method method : type.getDeclaredMethods()) {
            CHECK.holds(method + " has seven arguments at most", method.getParameterCount() <= 7);
        }
    }

    private static void source() throws IOException {
        CHECK.begin("source");
        String text = Files.readString(SOURCE, StandardCharsets.UTF_8);
        CHECK.holds("plain characters alone", text.chars().allMatch(sign -> sign < 127));
        String code = text.replaceAll("(?s)/\\*.*?\\*/", " ").replaceAll("//[^\n]*", " ");
        for (String word : new String[] {"package", "import", "throw", "throws", "try", "catch", "synchronized",
            "assert", "protected", "equals", "hashCode", "toString", "Object"}) {
            CHECK.holds("no " + word, !Pattern.compile("\\b" + word + "\\b").matcher(code).find());
        }
        for (String sign : new String[] {"->", "::", "@", "\""}) {
            CHECK.holds("no " + sign, !code.contains(sign));
        }
        Matcher library = Pattern.compile("\\b(?:Math|System|Arrays|Integer|Long)\\.(\\w+)").matcher(code);
        while (library.find()) {
            boolean known = Arrays.asList("min", "max", "arraycopy").contains(library.group(1));
            CHECK.holds(library.group() + " is allowed", known);
        }
        methodsAreShort(text.split("\n"));
        for (String line : text.split("\n")) {
            CHECK.holds("a line of 120 characters at most: " + line, line.length() <= 120);
        }
    }

    /** A method ends with the first line that is as far in as the one that it begins with. */
    private static void methodsAreShort(String[] lines) {
        int methods = 0;
        for (int i = 0; i < lines.length; i++) {
            Matcher head = Pattern.compile("( +)\\S.*\\) \\{").matcher(lines[i]);
            if (head.matches() && !lines[i].trim().matches("(if|for|while|switch|\\}) ?.*")) {
                methods++;
                int end = i;
                while (end < lines.length && !lines[end].equals(head.group(1) + "}")) {
                    end++;
                }
                CHECK.holds(lines[i].trim() + " of " + LINES + " lines at most", end - i < LINES);
            }
        }
        CHECK.holds("methods that are looked at: " + methods, methods > FACE.length);
    }
}
