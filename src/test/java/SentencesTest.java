import java.io.IOException;
import java.lang.reflect.Method;
import java.nio.file.Files;
import java.nio.file.Path;
import java.util.Map;
import java.util.TreeMap;
import java.util.regex.Matcher;
import java.util.regex.Pattern;

/**
 * Holds the tests of boundary cases against the document: the words that a test says it holds stand
 * in the section that it names, and no word of the terms and promises is without a test.
 */
public final class SentencesTest {
    private static final Checks CHECKS = new Checks();
    private static final Class<?>[] TESTS = {PlanEdgesTest.class, TreeEdgesTest.class, SaleEdgesTest.class,
        QuestionEdgesTest.class};

    private SentencesTest() {
    }

    public static void main(String[] args) throws IOException {
        if (args.length < 2) {
            System.out.println("the path of the document is wanted");
            System.exit(1);
        }
        Map<String, String> sections = sections(Files.readString(Path.of(args[1])));
        CHECKS.about("the document");
        CHECKS.due("sections", 4 + 1 + 31, sections.size());
        Map<String, boolean[]> held = new TreeMap<>();
        sections.forEach((name, text) -> held.put(name, new boolean[text.length()]));
        for (Class<?> tests : TESTS) {
            for (Method test : tests.getDeclaredMethods()) {
                Holds holds = test.getAnnotation(Holds.class);
                if (holds != null) {
                    CHECKS.about(tests.getName() + "." + test.getName());
                    mark(holds, sections, held);
                }
            }
        }
        sections.forEach((name, text) -> wordsWithoutTest(name, text, held.get(name)));
        CHECKS.close("sentences");
    }

    private static void mark(Holds holds, Map<String, String> sections, Map<String, boolean[]> held) {
        String text = sections.getOrDefault(holds.in(), "");
        int from = text.indexOf(holds.says());
        CHECKS.due("'" + holds.says() + "' stands in " + holds.in(), true, from >= 0);
        CHECKS.due("'" + holds.says() + "' stands there once", from, text.lastIndexOf(holds.says()));
        for (int i = Math.max(0, from); from >= 0 && i < from + holds.says().length(); i++) {
            held.get(holds.in())[i] = true;
        }
    }

    private static void wordsWithoutTest(String name, String text, boolean[] held) {
        StringBuilder bare = new StringBuilder();
        for (int i = 0; i < text.length(); i++) {
            bare.append(held[i] || !Character.isLetterOrDigit(text.charAt(i)) ? "" : text.charAt(i));
        }
        CHECKS.about(name);
        CHECKS.due("words without a test", "", bare.toString());
    }

    /** Terms by their numbers, the constants, promises by theirs, each as one line without the face's lines. */
    private static Map<String, String> sections(String document) {
        Map<String, String> sections = new TreeMap<>();
        String terms = between(document, "## Terms\n", "## Promise 1:");
        int constants = terms.indexOf("The constants:");
        sections.put("Constants", plain(terms.substring(constants)));
        Matcher m = Pattern.compile("(?ms)^([1-4])\\. (.*?)(?=^[1-4]\\. |\\z)").matcher(terms.substring(0, constants));
        while (m.find()) {
            sections.put("Terms " + m.group(1), plain(m.group(2)));
        }
        m = Pattern.compile("(?ms)^## (Promise \\d+): [^\n]*\n\n`[^`]*`: (.*?)(?=^## )").matcher(document);
        while (m.find()) {
            sections.put(m.group(1), plain(m.group(2)));
        }
        return sections;
    }

    private static String between(String text, String from, String to) {
        int start = text.indexOf(from) + from.length();
        return text.substring(start, text.indexOf(to, start));
    }

    private static String plain(String text) {
        return text.replaceAll("(?m)^```(text)?$", " ").replaceAll("\\s+", " ").trim();
    }
}
