import java.io.IOException;
import java.lang.reflect.Field;
import java.lang.reflect.Method;
import java.lang.reflect.Modifier;
import java.nio.file.Files;
import java.nio.file.Path;
import java.util.Set;
import java.util.TreeSet;
import java.util.regex.Matcher;
import java.util.regex.Pattern;

/** What can be seen of LANGUAGE.md from the source and from the class: the face, words that are not there. */
public final class LanguageTest {
    private static final Checks CHECKS = new Checks();
    private static final Set<String> FACE = Set.of("feed", "end", "plan", "fault", "months", "join", "move", "quit",
        "sell", "back", "draw", "rule", "seller", "tree", "moved", "why", "common", "sale", "pay", "quote", "repaid",
        "gap", "lift", "place", "due", "ready", "journal", "books", "image", "again");

    private LanguageTest() {
    }

    public static void main(String[] args) throws IOException {
        face();
        if (args.length > 0) {
            words(Files.readString(Path.of(args[0])));
        }
        CHECKS.close("language");
    }

    private static void face() {
        CHECKS.about("rule 1");
        Set<String> seen = new TreeSet<>();
        for (Method m : CommissionHouse.class.getDeclaredMethods()) {
            boolean open = Modifier.isPublic(m.getModifiers());
            CHECKS.due(m + " is private or of the face", true, open || Modifier.isPrivate(m.getModifiers()));
            CHECKS.due(m + " bears no name of the face", open, FACE.contains(m.getName()));
            seen.add(m.getName() + (open ? "" : " private"));
        }
        for (String name : FACE) {
            CHECKS.due(name + " is there", true, seen.contains(name));
        }
        for (Field f : CommissionHouse.class.getDeclaredFields()) {
            CHECKS.due(f + " is private or NONE", true, f.getName().equals("NONE") || Modifier.isPrivate(f.getModifiers()));
            CHECKS.due(f + " is final", true, Modifier.isFinal(f.getModifiers()));
        }
        CHECKS.due("one constructor", 1, CommissionHouse.class.getDeclaredConstructors().length);
        CHECKS.due("NONE", -1, CommissionHouse.NONE);
        for (Class<?> inner : CommissionHouse.class.getDeclaredClasses()) {
            CHECKS.due(inner + " is static", true, Modifier.isStatic(inner.getModifiers()));
            CHECKS.due(inner + " has some twenty fields at most", true, inner.getDeclaredFields().length <= 20);
            for (Method m : inner.getDeclaredMethods()) {
                CHECKS.due(m + " bears no name of the face", false, FACE.contains(m.getName()));
                CHECKS.due(m + " takes seven at most", true, m.getParameterCount() <= 7);
            }
        }
        CHECKS.due("some twelve classes at most", true, CommissionHouse.class.getDeclaredClasses().length < 12);
    }

    private static void words(String source) {
        CHECKS.about("rules 3 to 13");
        String code = source.replaceAll("(?s)/\\*.*?\\*/", "").replaceAll("//[^\n]*", "").replaceAll("\"[^\"]*\"", "\"\"");
        String[] absent = {"throw", "throws", "try", "catch", "synchronized", "assert", "package", "Random", "Thread",
            "Object", "hashCode", "toString", "Exact", "->", "::", "float", "double", "volatile", "native"};
        for (String word : absent) {
            boolean letters = Character.isLetter(word.charAt(0));
            Matcher m = Pattern.compile(letters ? "\\b\\w*" + word + "\\b" : Pattern.quote(word)).matcher(code);
            CHECKS.due("'" + word + "' is there", false, m.find());
        }
        Matcher imports = Pattern.compile("import ([^;]+);").matcher(code);
        while (imports.find()) {
            CHECKS.due("import " + imports.group(1), true, imports.group(1).equals("java.util.Arrays"));
        }
        for (char sign : source.toCharArray()) {
            CHECKS.due("a sign beyond 127", true, sign < 128);
        }
        methodsAreShort(source);
    }

    private static void methodsAreShort(String source) {
        int from = -1;
        String[] lines = source.split("\n");
        for (int i = 0; i < lines.length; i++) {
            if (lines[i].matches(" {4,8}[a-z].*\\(.*\\) \\{")) {
                from = i;
            }
            if (from >= 0 && lines[i].matches(" {4,8}\\}")) {
                CHECKS.due("the method of line " + (from + 1) + " is short", true, i - from <= 60);
                from = -1;
            }
        }
    }
}
