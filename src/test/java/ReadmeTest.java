import java.io.IOException;
import java.lang.reflect.InvocationTargetException;
import java.lang.reflect.Method;
import java.lang.reflect.Modifier;
import java.nio.file.Files;
import java.nio.file.Path;
import java.util.regex.Matcher;
import java.util.regex.Pattern;

/** The calls that README.md shows are made here in its order, and must give the answers it tells. */
public final class ReadmeTest {
    private static final Checks CHECKS = new Checks();
    private static final Pattern SHOWN = Pattern.compile("^house\\.(\\w+)\\((.*?)\\);\\s+// (-?\\d+):", Pattern.MULTILINE);
    private static final Pattern QUOTED = Pattern.compile("\"([^\"]*)\"");

    private ReadmeTest() {
    }

    public static void main(String[] args) throws IOException, ReflectiveOperationException {
        String page = Files.readString(Path.of("README.md"));
        callsAnswerAsShown(page);
        everyCallIsNamed(page);
        CHECKS.close("readme");
    }

    private static void callsAnswerAsShown(String page) throws ReflectiveOperationException {
        CHECKS.about("README.md, the answers");
        CommissionHouse house = new CommissionHouse();
        int shown = 0;
        Matcher line = SHOWN.matcher(page);
        while (line.find()) {
            shown++;
            int[] numbers = numbers(line.group(2));
            CHECKS.due(line.group(), Integer.parseInt(line.group(3)), answer(house, line.group(1), numbers));
            if (line.group(1).equals("feed")) {
                bytesAreAsQuoted(numbers, page.substring(line.end(), page.indexOf('\n', line.end())));
            }
        }
        int told = page.split("\nhouse\\.", -1).length - 1;
        CHECKS.due("every call that is shown has its answer", told, shown);
        CHECKS.due("some calls are shown", true, shown > 0);
    }

    private static int[] numbers(String list) {
        if (list.isEmpty()) {
            return new int[0];
        }
        String[] parts = list.split(", ");
        int[] numbers = new int[parts.length];
        for (int i = 0; i < parts.length; i++) {
            numbers[i] = Integer.decode(parts[i]);
        }
        return numbers;
    }

    private static int answer(CommissionHouse house, String name, int[] numbers)
            throws IllegalAccessException, InvocationTargetException {
        for (Method method : CommissionHouse.class.getMethods()) {
            if (method.getName().equals(name) && method.getParameterCount() == numbers.length) {
                Object[] given = new Object[numbers.length];
                for (int i = 0; i < numbers.length; i++) {
                    given[i] = numbers[i];
                }
                return (Integer) method.invoke(house, given);
            }
        }
        throw new IllegalArgumentException("no such call: " + name);
    }

    private static void bytesAreAsQuoted(int[] numbers, String comment) {
        StringBuilder bytes = new StringBuilder();
        for (int number : numbers) {
            for (int shift = 24; shift >= 0; shift -= 8) {
                bytes.append((char) (number >> shift & 255));
            }
        }
        Matcher quoted = QUOTED.matcher(comment);
        CHECKS.due("a feed tells its bytes", true, quoted.find());
        CHECKS.due("they are " + quoted.group(1), true, bytes.toString().stripTrailing().equals(quoted.group(1)));
    }

    private static void everyCallIsNamed(String page) {
        CHECKS.about("README.md, the calls");
        for (Method method : CommissionHouse.class.getDeclaredMethods()) {
            if (Modifier.isPublic(method.getModifiers())) {
                CHECKS.due(method.getName() + " is named", true, page.contains("`" + method.getName() + "`"));
            }
        }
    }
}
