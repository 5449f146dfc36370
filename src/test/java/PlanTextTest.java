import java.util.Random;

/** Promises 2 to 5 and 13: the tape, plan texts, their faults and places. */
public final class PlanTextTest {
    private static final Checks CHECKS = new Checks();

    private PlanTextTest() {
    }

    public static void main(String[] args) {
        tape();
        faults();
        rules();
        fresh();
        randomTexts();
        CHECKS.close("plan texts");
    }

    private static void feed(CommissionHouse house, String text) {
        int length = 0;
        for (int[] f : PlanTexts.feeds(text)) {
            length = house.feed(f[0], f[1], f[2], f[3], f[4]);
        }
        house.end(length - (20 - text.length() % 20) % 20);
    }

    private static void tape() {
        CHECKS.about("promises 2, 3");
        CommissionHouse house = new CommissionHouse();
        CHECKS.due("end(0)", 0, house.end(0));
        CHECKS.due("end(1)", -1, house.end(1));
        CHECKS.due("end(-1)", -1, house.end(-1));
        for (int n = 1; n <= 30; n++) {
            CHECKS.due("feed", 20 * n, house.feed(538976288, 538976288, 538976288, 538976288, 538976288));
        }
        CHECKS.due("feed beyond", -1, house.feed(0, 0, 0, 0, 0));
        CHECKS.due("end(601)", -1, house.end(601));
        CHECKS.due("end(600)", 600, house.end(600));
        CHECKS.due("end(581)", 581, house.end(581));
        CHECKS.due("feed beyond", -1, house.feed(0, 0, 0, 0, 0));
        CHECKS.due("end(580)", 580, house.end(580));
        // "quota 7;cap 5;vest 2" behind the blanks
        CHECKS.due("feed", 600, house.feed(0x71756f74, 0x6120373b, 0x63617020, 0x353b7665, 0x73742032));
        CHECKS.due("end(594)", 594, house.end(594));
        CHECKS.due("plan()", 0, house.plan());
        CHECKS.due("rule(0)", 7, house.rule(0));
        CHECKS.due("rule(1)", 5, house.rule(1));
        CHECKS.due("rule(2)", 3, house.rule(2));
        CHECKS.due("end(1), the tape is empty", -1, house.end(1));
    }

    private static void fault(String text, int fault, int place) {
        CommissionHouse house = new CommissionHouse();
        CHECKS.due("fault(0) ahead of all", 0, house.fault(0));
        CHECKS.due("fault(1) ahead of all", -1, house.fault(1));
        feed(house, text);
        CHECKS.due("plan() of '" + text + "'", fault == 0 ? 0 : -1, house.plan());
        CHECKS.due("fault(0) of '" + text + "'", fault, house.fault(0));
        CHECKS.due("fault(1) of '" + text + "'", place, house.fault(1));
        CHECKS.due("fault(2)", -1, house.fault(2));
        CHECKS.due("fault(-1)", -1, house.fault(-1));
        CHECKS.due("end(1), the tape is empty", -1, house.end(1));
    }

    private static void faults() {
        CHECKS.about("promises 4, 5");
        fault("", 0, -1);
        fault(" \n ", 0, -1);
        fault("level 6 flat 1;", 2, 6);
        fault("level 0 flat 1;", 2, 6);
        fault("level 1 flat 21;", 2, 13);
        fault("level 1 flat 20;", 0, -1);
        fault("level 1 loyal 100 5;", 2, 14);
        fault("level 1 loyal 99 20;", 0, -1);
        fault("level 1 loyal 99 21;", 2, 17);
        fault("level 1 loyal 99;", 1, 16);
        fault("level 1 flat 1 2;", 1, 15);
        fault("rank 1 10000 0;", 1, 7);
        fault("rank 1 9999 4;", 0, -1);
        fault("rank 1 0000 5;", 2, 12);
        fault("rank 0 10 0;", 2, 5);
        fault("rank 4 10 0;", 2, 5);
        fault("window 0;", 2, 7);
        fault("window 7;", 2, 7);
        fault("window 6;window1;", 0, -1);
        fault("cap 100;", 2, 4);
        fault("cap 99;", 0, -1);
        fault("vest 13;", 2, 5);
        fault("vest 12;", 0, -1);
        fault("quota 5", 1, 7);
        fault("quota 5 \n", 1, 9);
        fault("quota", 1, 5);
        fault("quota 9999;", 0, -1);
        fault("quota 00001;", 1, 6);
        fault("quota 0001;", 0, -1);
        fault("opens 4 1;", 2, 6);
        fault("opens 3 6;", 2, 8);
        fault("opens 0 5;", 0, -1);
        fault("levels 1 flat 1;", 1, 0);
        fault("level 1 sum flat 1;", 1, 18);
        fault("level 1 flat;", 1, 12);
        fault("level flat 1;", 1, 6);
        fault(";", 1, 0);
        fault("quota 1;;", 1, 8);
        fault("quota 1; Quota 2;", 1, 9);
        fault("quota\t1;", 1, 5);
        fault("quota 1;\u00ff", 1, 8);
        fault("flat 1;", 1, 0);
        fault("capz 1;", 1, 0);
        fault("acap 1;", 1, 0);
        fault("nap 1;", 1, 0);
        fault("car 1;", 1, 0);
        fault(";".repeat(600), 1, 0);
        fault("cap1;".repeat(120), 0, -1);
        fault("cap1;".repeat(119) + "cap 1", 1, 600);
        fault("cap1;".repeat(118) + "opens 0 6;", 2, 598);
        fault("1", 1, 0);
        fault("level1flat9;rank2 300 1;\nopens0 5;", 0, -1);
        // a broken text is told ahead of numbers that can't be, wherever they stand
        fault("cap 100;quota", 1, 13);
        fault("cap 100;vest 99;", 2, 4);
        fault("level 1 more more more more flat 1 flat 1 flat 1 flat 1 flat 1;", 3, 56);
        fault("level 1 more more more flat 1 flat 1 flat 1 flat 1;", 0, -1);
        fault("level 1 more more more more flat 1 flat 1 flat 1 flat 21 flat 1;", 2, 54);
        fault("level 1 more more more more flat 1 flat 1 flat 1 flat 1 flat 21;", 3, 56);
        fault("level 1 sum sum sum sum sum sum sum sum sum;", 1, 43);
        StringBuilder deep = new StringBuilder("level 1");
        for (int n = 0; n < 60; n++) {
            deep.append(" sum");
        }
        deep.append(' ');
        for (int n = 0; n < 61; n++) {
            deep.append("wide1");
        }
        fault(deep.append(';').toString(), 3, 40);
    }

    private static void rules() {
        CHECKS.about("promises 1, 4, 13");
        CommissionHouse house = new CommissionHouse();
        rulesAre(house, 100, 30, 3, 2, -2, 0, 1000, 2000, 3000, -2, 0, 1, 2, 3, -2, 1, 2, 3, 4, -2, -2, 1, 1, 1, 1, 1, -2);
        feed(house, "level 2 sum flat 1 more wide 2 loyal 3 4;rank 2 70 0;rank 2 80 4;opens 0 0;opens 3 5;"
            + "quota 9;cap 8;vest 0;window 6;level 4 flat 1;level 4 less flat 1 flat 2;");
        CHECKS.due("plan()", 0, house.plan());
        rulesAre(house, 9, 8, 0, 6, -2, 0, 1000, 80, 3000, -2, 0, 1, 4, 3, -2, 0, 2, 3, 5, -2, -2, 1, 5, 1, 3, 1, -2);
        feed(house, "quota 1;cap 100;");
        CHECKS.due("plan()", -1, house.plan());
        rulesAre(house, 9, 8, 0, 6, -2, 0, 1000, 80, 3000, -2, 0, 1, 4, 3, -2, 0, 2, 3, 5, -2, -2, 1, 5, 1, 3, 1, -2);
        feed(house, "cap 1;");
        CHECKS.due("plan()", 0, house.plan());
        rulesAre(house, 100, 1, 3, 2, -2, 0, 1000, 2000, 3000, -2, 0, 1, 2, 3, -2, 1, 2, 3, 4, -2, -2, 1, 1, 1, 1, 1, -2);
    }

    private static void rulesAre(CommissionHouse house, int... want) {
        int[] whats = {0, 1, 2, 3, 4, 10, 11, 12, 13, 14, 20, 21, 22, 23, 24, 30, 31, 32, 33, 34, 40, 41, 42, 43, 44, 45, 46};
        for (int i = 0; i < whats.length; i++) {
            CHECKS.due("rule(" + whats[i] + ")", want[i], house.rule(whats[i]));
        }
        CHECKS.due("rule(-1)", -2, house.rule(-1));
        CHECKS.due("rule(9)", -2, house.rule(9));
        CHECKS.due("rule(max)", -2, house.rule(Integer.MAX_VALUE));
    }

    private static void fresh() {
        CHECKS.about("promise 4, anew");
        CommissionHouse house = new CommissionHouse();
        house.join(0);
        house.sell(0, 100, 0);
        house.sell(1, 1000, 0);
        house.months(3);
        house.draw(0, 5);
        feed(house, "cap 100;");
        CHECKS.due("plan()", -1, house.plan());
        CHECKS.due("books(0), all stays", 3, house.books(0));
        CHECKS.due("books(2), all stays", 2, house.books(2));
        CHECKS.due("books(12), all stays", 5, house.books(12));
        feed(house, "cap 20;");
        CHECKS.due("plan()", 0, house.plan());
        int[] want = {0, 1, 0, 0, 0, 0, 0, 0, 0, 0, 0, 0, 0, 0, 0, 0, 0, 0, 0, 0, -2};
        for (int what = 0; what <= 20; what++) {
            CHECKS.due("books(" + what + ")", want[what], house.books(what));
        }
        CHECKS.due("journal(0, NONE, 0)", 0, house.journal(0, -1, 0));
        CHECKS.due("seller(1, 0)", -1000000, house.seller(1, 0));
        CHECKS.due("join(0)", 1, house.join(0));
        CHECKS.due("journal(1, NONE, 0)", 0, house.journal(1, -1, 0));
        CHECKS.due("seller(1, 2)", 0, house.seller(1, 2));
    }

    private static void randomTexts() {
        CHECKS.about("random texts");
        Random random = new Random(5);
        for (int n = 0; n < 20000; n++) {
            CommissionHouse house = new CommissionHouse();
            Model model = new Model();
            String text = n % 4 == 0 ? PlanTexts.good(random) : n % 4 == 1 ? odd(random) : PlanTexts.bad(random);
            text = text.length() > 600 ? text.substring(0, 600) : text;
            feed(house, text);
            model.tape.append(text);
            CHECKS.due("plan() of '" + text + "'", model.plan(), house.plan());
            CHECKS.due("fault(0) of '" + text + "'", model.fault(0), house.fault(0));
            CHECKS.due("fault(1) of '" + text + "'", model.fault(1), house.fault(1));
            for (int what = 0; what < 46; what++) {
                CHECKS.due("rule(" + what + ") of '" + text + "'", model.rule(what), house.rule(what));
            }
        }
    }

    /** Clauses of the right shape, with numbers that often can't be. */
    private static String odd(Random random) {
        StringBuilder text = new StringBuilder();
        String[] shapes = {"level # flat #", "level # loyal # #", "level 3 sum wide # more ranked # flat 3", "rank # # #",
            "opens # #", "quota #", "cap #", "vest #", "window #"};
        int[] numbers = {0, 1, 2, 3, 4, 5, 6, 7, 12, 13, 20, 21, 99, 100, 9999};
        int easy = random.nextInt(13);
        for (int n = random.nextInt(7); n > 0; n--) {
            for (char sign : shapes[random.nextInt(shapes.length)].toCharArray()) {
                boolean hard = random.nextInt(13) < easy;
                int number = hard ? numbers[random.nextInt(numbers.length)] : 1 + random.nextInt(3);
                text.append(sign == '#' ? Integer.toString(number) : String.valueOf(sign));
            }
            text.append(";");
        }
        return text.toString();
    }
}
