import java.util.Random;

/** Runs of random calls, each answer held against the model's; the seeds are fixed. */
public final class RandomRunsTest {
    private static final int RUNS = 1200;
    private static final int CALLS = 512;

    private final Random random;
    private final CommissionHouse house = new CommissionHouse();
    private final Model model = new Model();
    private final StringBuilder told = new StringBuilder();
    private final int monthsShare;
    private final int movesShare;
    private final int oddShare;
    private int calls = 0;

    private RandomRunsTest(int seed) {
        random = new Random(seed);
        monthsShare = new int[] {1, 2, 4, 8}[seed % 4];
        movesShare = new int[] {3, 10, 25}[seed % 3];
        oddShare = seed % 7 == 0 ? 25 : 4;
    }

    public static void main(String[] args) {
        int wrong = 0;
        for (int run = 1; run <= RUNS && wrong < 3; run++) {
            wrong += new RandomRunsTest(run).passes(run) ? 0 : 1;
        }
        System.out.println(wrong == 0 ? RUNS + " random runs agree" : "random runs disagree");
        System.exit(wrong == 0 ? 0 : 1);
    }

    private boolean passes(int run) {
        if (run % 10 != 0 && !tell(shortPlan())) {
            return false;
        }
        if (run % 5 != 0 && !opening()) {
            return false;
        }
        while (calls < CALLS) {
            if (!step()) {
                return false;
            }
        }
        return true;
    }

    private String shortPlan() {
        String text = PlanTexts.good(random);
        return text.length() <= 600 ? text : "";
    }

    /** Some sellers in a deep tree who all sell, so that levels are taken from the first calls on. */
    private boolean opening() {
        int crew = 2 + up(8);
        boolean same = true;
        for (int i = 0; i < crew && same; i++) {
            int sponsor = chance(70) ? model.people.size() - 1 : up(model.people.size());
            same = same(house.join(sponsor), model.join(sponsor), "join", sponsor);
        }
        for (int s = 0; s < model.people.size() && same; s++) {
            int much = model.rules.quota + 1 + up(300);
            same = chance(20) || same(house.sell(s, much, 0), model.sell(s, much, 0), "sell", s, much, 0);
        }
        return same;
    }

    private int up(int bound) {
        return random.nextInt(bound);
    }

    private boolean chance(int percent) {
        return up(100) < percent;
    }

    /** Mostly one that is there, now and then a wrong number. */
    private int among(int count) {
        if (chance(oddShare)) {
            int[] odd = {-1, -2, count, count + 1, count - 1, 0, 1 << 30, Integer.MAX_VALUE, Integer.MIN_VALUE, 1000000};
            return odd[up(odd.length)];
        }
        return count <= 0 ? 0 : up(count);
    }

    private int seller() {
        return among(model.people.size());
    }

    private int sale() {
        return among(model.sales.size());
    }

    private int monthNear(int behind, int ahead) {
        if (chance(oddShare)) {
            int[] odd = {-1, 0, 99, 100, Integer.MAX_VALUE, Integer.MIN_VALUE, Integer.MAX_VALUE - 3};
            return odd[up(odd.length)];
        }
        return model.now - behind + up(behind + ahead + 1);
    }

    private int amount() {
        if (chance(oddShare)) {
            int[] odd = {0, -1, 9999, 10000, Integer.MAX_VALUE, Integer.MIN_VALUE, 1};
            return odd[up(odd.length)];
        }
        if (chance(10)) {
            return 1 + up(9999);
        }
        return 1 + up(300) + up(2) * model.rules.quota;
    }

    private boolean same(long got, long want, Object... call) {
        calls++;
        StringBuilder text = new StringBuilder();
        for (Object part : call) {
            text.append(part).append(' ');
        }
        told.append(text).append("-> ").append(want).append('\n');
        if (got != want) {
            System.out.println(told);
            System.out.println("the last answered " + got);
        }
        return got == want;
    }

    private static int num(boolean b) {
        return b ? 1 : 0;
    }

    private boolean tell(String text) {
        for (int[] five : PlanTexts.feeds(text)) {
            if (!feed(five)) {
                return false;
            }
        }
        int n = text.length() <= model.tape.length() ? model.tape.length() - padding(text) : -1;
        return same(house.end(n), model.end(n), "end", n)
            && same(house.plan(), model.plan(), "plan", text)
            && same(house.fault(0), model.fault(0), "fault", 0)
            && same(house.fault(1), model.fault(1), "fault", 1);
    }

    private static int padding(String text) {
        return (20 - text.length() % 20) % 20;
    }

    private boolean feed(int[] f) {
        return same(house.feed(f[0], f[1], f[2], f[3], f[4]), model.feed(f), "feed", f[0], f[1], f[2], f[3], f[4]);
    }

    private boolean step() {
        int dice = up(100);
        if (dice < 50) {
            return ask();
        }
        if (dice < 50 + monthsShare) {
            int n = chance(15) ? among(13) : 1;
            return same(house.months(n), model.months(n), "months", n);
        }
        if (dice < 61) {
            int s = seller();
            return chance(60) || same(house.join(s), model.join(s), "join", s);
        }
        if (dice < 61 + movesShare) {
            int s = movesShare > 20 && chance(60) ? 1 : seller();
            int to = seller();
            int m = monthNear(1, 7);
            return same(house.move(s, to, m), model.move(s, to, m), "move", s, to, m);
        }
        if (dice < 87) {
            int s = seller();
            int a = amount();
            int m = chance(70) ? model.now : monthNear(3, 1);
            return chance(50) || same(house.sell(s, a, m), model.sell(s, a, m), "sell", s, a, m);
        }
        return dice < 98 ? stepOfMoney() : stepApart();
    }

    private boolean stepOfMoney() {
        int dice = up(100);
        if (dice < 25) {
            int s = sale();
            int p = chance(10) ? among(102) : 1 + up(60);
            return same(house.back(s, p), model.back(s, p), "back", s, p);
        }
        int s = seller();
        int balance = s >= 0 && s < model.people.size() ? model.balance(s) : 5;
        int much = chance(30) ? balance : chance(10) ? balance + 1 : 1 + up(Math.max(1, balance));
        return same(house.draw(s, much), model.draw(s, much), "draw", s, much);
    }

    private boolean stepApart() {
        int k = among(3);
        int s = seller();
        switch (up(8)) {
            case 0: case 1:
                return same(house.quit(s), model.quit(s), "quit", s);
            case 2: case 3: case 4:
                return same(num(house.image(k)), num(model.image(k)), "image", k);
            case 5: case 6:
                return same(num(house.again(k)), num(model.again(k)), "again", k);
            default:
                return tapeWork();
        }
    }

    private boolean tapeWork() {
        if (chance(30)) {
            int[] five = {random.nextInt(), random.nextInt(), random.nextInt(), random.nextInt(), random.nextInt()};
            return feed(five);
        }
        if (chance(30)) {
            int n = among(601);
            return same(house.end(n), model.end(n), "end", n);
        }
        return tell(chance(15) ? PlanTexts.good(random) : PlanTexts.bad(random));
    }

    private boolean ask() {
        int s = seller();
        int t = seller();
        int a = amount();
        int m = chance(50) ? monthNear(8, 7) : up(model.now + 1);
        int x = sale();
        int level = chance(50) ? 1 : chance(90) ? up(6) : among(7);
        int rank = chance(95) ? 1 + up(3) : among(5);
        boolean b = random.nextBoolean();
        switch (up(20)) {
            case 0: {
                int w = chance(90) ? new int[] {0, 10, 20, 30, 41}[up(5)] + up(5) : among(50);
                return same(house.rule(w), model.rule(w), "rule", w);
            }
            case 1: case 2: {
                int w = among(12);
                return same(house.seller(s, w), model.seller(s, w), "seller", s, w);
            }
            case 3: case 4: case 5: {
                int w = among(11);
                return same(house.tree(s, m, w), model.tree(s, m, w), "tree", s, m, w);
            }
            case 6: {
                int k = among(s >= 0 && s < model.people.size() ? model.people.get(s).moves.size() : 2);
                int w = among(2);
                return same(house.moved(s, k, w), model.moved(s, k, w), "moved", s, k, w);
            }
            case 7:
                return same(house.why(s, t, m), model.why(s, t, m), "why", s, t, m);
            case 8:
                return same(house.common(s, t, m), model.common(s, t, m), "common", s, t, m);
            case 9: {
                int w = among(11);
                return same(house.sale(x, w), model.sale(x, w), "sale", x, w);
            }
            case 10: {
                int w = among(9);
                return same(house.pay(x, level, w), model.pay(x, level, w), "pay", x, level, w);
            }
            case 11: {
                int w = among(7);
                return same(house.quote(s, a, level, w), model.quote(s, a, level, w), "quote", s, a, level, w);
            }
            case 12: {
                int w = among(7);
                return same(house.repaid(x, level, w), model.repaid(x, level, w), "repaid", x, level, w);
            }
            case 13:
                return same(house.gap(s, rank), model.gap(s, rank), "gap", s, rank);
            case 14:
                return same(house.lift(s, rank, b), model.lift(s, rank, b), "lift", s, rank, b);
            case 15:
                return same(house.place(s, a, b), model.place(s, a, b), "place", s, a, b);
            case 16: {
                int d = monthNear(1, 13);
                return same(house.due(s, d), model.due(s, d), "due", s, d);
            }
            case 17: {
                int much = chance(10) ? random.nextInt() : s >= 0 && s < model.people.size()
                    ? model.balance(s) + up(Math.max(1, model.rest(s) + 2)) : 3;
                return same(house.ready(s, much), model.ready(s, much), "ready", s, much);
            }
            case 18: {
                int k = among(chance(50) || !model.is(s) ? 18 : model.people.get(s).lines.size() + 1) - 1;
                int w = among(4);
                return same(house.journal(s, k, w), model.journal(s, k, w), "journal", s, k, w);
            }
            default: {
                int w = among(20);
                return same(house.books(w), model.books(w), "books", w);
            }
        }
    }
}
