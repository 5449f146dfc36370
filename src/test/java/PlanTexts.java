import java.util.ArrayList;
import java.util.List;
import java.util.Random;

/** Plan texts for tests, and how they are fed. */
final class PlanTexts {
    private PlanTexts() {
    }

    /** The numbers that feed() takes for a text, blanks behind it up to twenty bytes. */
    static List<int[]> feeds(String text) {
        List<int[]> rows = new ArrayList<>();
        for (int from = 0; from < text.length(); from += 20) {
            int[] five = new int[5];
            for (int i = 0; i < 20; i++) {
                int sign = from + i < text.length() ? text.charAt(from + i) : ' ';
                five[i / 4] = five[i / 4] << 8 | sign;
            }
            rows.add(five);
        }
        return rows;
    }

    static String good(Random random) {
        StringBuilder text = new StringBuilder();
        for (int level = 1; level <= 5; level++) {
            if (random.nextInt(5) != 0) {
                text.append("level ").append(level).append(form(random, random.nextInt(3))).append(';');
            }
        }
        int goal = 0;
        for (int rank = 1; rank <= 3; rank++) {
            goal += random.nextInt(400);
            if (random.nextInt(4) != 0) {
                text.append("rank ").append(rank).append(' ').append(goal).append(' ').append(random.nextInt(3)).append(";\n");
            }
        }
        for (int rank = 0; rank <= 3; rank++) {
            if (random.nextInt(2) != 0) {
                text.append("opens ").append(rank).append(' ').append(random.nextInt(6)).append(';');
            }
        }
        if (random.nextInt(5) != 0) {
            text.append("quota ").append(random.nextInt(8) == 0 ? 0 : random.nextInt(60)).append(" ;");
        }
        text.append("cap").append(random.nextInt(100)).append(';');
        if (random.nextInt(3) != 0) {
            text.append("vest ").append(random.nextInt(13)).append(';');
        }
        if (random.nextInt(3) != 0) {
            text.append("window ").append(1 + random.nextInt(6)).append(';');
        }
        return text.toString();
    }

    private static String form(Random random, int depth) {
        int rate = random.nextInt(21);
        if (depth > 0 && random.nextInt(3) != 0) {
            String joint = new String[] {" more", " less", " sum"}[random.nextInt(3)];
            return joint + form(random, depth - 1) + form(random, depth - 1);
        }
        switch (random.nextInt(4)) {
            case 0: return " flat " + rate;
            case 1: return " ranked " + rate;
            case 2: return " wide " + rate;
            default: return " loyal " + random.nextInt(6) + " " + rate;
        }
    }

    /** Texts that are often wrong, at a random place; 600 signs at most. */
    static String bad(Random random) {
        StringBuilder text = new StringBuilder();
        String[] parts = {"level", "rank", "opens", "quota", "cap", "vest", "window", "flat", "ranked", "wide",
            "loyal", "more", "less", "sum", ";", ";", "0", "1", "3", "5", "20", "21", "99", "100", "9999", "10000",
            "00001", "0004", "levels", "x", "#", "\n", "Level", "\u00ff", "6", "4"};
        int kind = random.nextInt(4);
        if (kind == 0) {
            for (int n = random.nextInt(8); n > 0; n--) {
                text.append(parts[random.nextInt(parts.length)]).append(random.nextInt(4) == 0 ? "" : " ");
            }
        } else if (kind == 1) {
            text.append("level 1").append(form(random, 5)).append(";level 2").append(form(random, 4)).append(';');
        } else {
            text.append(good(random));
            for (int n = 1 + random.nextInt(3); n > 0; n--) {
                mutate(random, text, parts);
            }
        }
        if (text.length() > 560) {
            text.setLength(560);
        }
        return text.toString();
    }

    private static void mutate(Random random, StringBuilder text, String[] parts) {
        int at = random.nextInt(text.length() + 1);
        switch (random.nextInt(4)) {
            case 0:
                text.insert(at, parts[random.nextInt(parts.length)]);
                break;
            case 1:
                text.setLength(at);
                break;
            case 2:
                text.insert(at, (char) ('0' + random.nextInt(10)));
                break;
            default:
                if (at < text.length()) {
                    text.deleteCharAt(at);
                }
                break;
        }
        if (text.length() == 0) {
            text.append(' ');
        }
    }
}
