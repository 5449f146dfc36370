/** Each promise on small runs whose answers were found by hand from the document. */
public final class PromisesTest {
    private static final Checks CHECKS = new Checks();
    private static final int NO_SELLER = -1000000;

    private PromisesTest() {
    }

    public static void main(String[] args) {
        newObject();
        monthsAndJoins();
        moves();
        twelveMoves();
        movesWithQuits();
        tree();
        paysOfDefaultPlan();
        earnedAndDrawn();
        back();
        quits();
        lateSales();
        sellRefused();
        forms();
        percents();
        vestingAtOnce();
        repaid();
        gapAndLift();
        place();
        placeFarBelow();
        journalOfMany();
        ranksOverMonths();
        images();
        CHECKS.close("promises");
    }

    private static CommissionHouse planned(String text) {
        CommissionHouse house = new CommissionHouse();
        int length = 0;
        for (int[] f : PlanTexts.feeds(text)) {
            length = house.feed(f[0], f[1], f[2], f[3], f[4]);
        }
        CHECKS.due("plan() of " + text, 0, house.plan());
        CHECKS.due("tape of " + text, true, length >= text.length());
        return house;
    }

    /** Seller i + 1 joins under the i-th sponsor. */
    private static CommissionHouse crew(CommissionHouse house, int... sponsors) {
        for (int i = 0; i < sponsors.length; i++) {
            CHECKS.due("join(" + sponsors[i] + ")", i + 1, house.join(sponsors[i]));
        }
        return house;
    }

    private static void row(CommissionHouse h, String what, int[] got, int... want) {
        CHECKS.due(what + ": how many", want.length, got.length);
        for (int i = 0; i < want.length && i < got.length; i++) {
            CHECKS.due(what + ", what " + i, want[i], got[i]);
        }
    }

    private static int[] payRow(CommissionHouse h, int sale, int level) {
        int[] row = new int[9];
        for (int what = 0; what < 9; what++) {
            row[what] = h.pay(sale, level, what);
        }
        return row;
    }

    private static int[] sellerRow(CommissionHouse h, int seller) {
        int[] row = new int[12];
        for (int what = 0; what < 12; what++) {
            row[what] = h.seller(seller, what);
        }
        return row;
    }

    private static int[] saleRow(CommissionHouse h, int sale) {
        int[] row = new int[11];
        for (int what = 0; what < 11; what++) {
            row[what] = h.sale(sale, what);
        }
        return row;
    }

    private static int[] bookRow(CommissionHouse h) {
        int[] row = new int[20];
        for (int what = 0; what < 20; what++) {
            row[what] = h.books(what);
        }
        return row;
    }

    private static int[] line(CommissionHouse h, int seller, int k) {
        int[] row = new int[4];
        for (int what = 0; what < 4; what++) {
            row[what] = h.journal(seller, k, what);
        }
        return row;
    }

    private static void newObject() {
        CHECKS.about("promise 1");
        CommissionHouse h = new CommissionHouse();
        row(h, "books", bookRow(h), 0, 1, 0, 0, 0, 0, 0, 0, 0, 0, 0, 0, 0, 0, 0, 0, 0, 0, 0, 0);
        row(h, "seller 0", sellerRow(h, 0), 0, -1, 0, 0, 0, 0, 0, 0, 0, 0, 0, 0);
        CHECKS.due("again(0)", false, h.again(0));
        CHECKS.due("sale(0, 0)", -2, h.sale(0, 0));
        CHECKS.due("pay(0, 1, 0)", -2, h.pay(0, 1, 0));
        CHECKS.due("repaid(0, 0, 0)", -2, h.repaid(0, 0, 0));
        CHECKS.due("books(20)", -2, h.books(20));
        CHECKS.due("books(-1)", -2, h.books(-1));
        CHECKS.due("seller(0, 12)", NO_SELLER, h.seller(0, 12));
        CHECKS.due("seller(0, -1)", NO_SELLER, h.seller(0, -1));
        CHECKS.due("seller(-1, 0)", NO_SELLER, h.seller(-1, 0));
    }

    private static void monthsAndJoins() {
        CHECKS.about("promises 6, 7");
        CommissionHouse h = new CommissionHouse();
        CHECKS.due("months(0)", -1, h.months(0));
        CHECKS.due("months(13)", -1, h.months(13));
        CHECKS.due("months(-1)", -1, h.months(-1));
        CHECKS.due("months(max)", -1, h.months(Integer.MAX_VALUE));
        CHECKS.due("months(12)", 12, h.months(12));
        CHECKS.due("join(1)", -1, h.join(1));
        CHECKS.due("join(-1)", -1, h.join(-1));
        for (int n = 1; n <= 9; n++) {
            CHECKS.due("join", n, h.join(n - 1));
        }
        CHECKS.due("join an 11th", -1, h.join(0));
        CHECKS.due("seller(9, 0)", 12, h.seller(9, 0));
        CHECKS.due("tree(9, 12, 1)", 9, h.tree(9, 12, 1));
        for (int n = 2; n <= 8; n++) {
            CHECKS.due("months(12)", 12 * n, h.months(12));
        }
        CHECKS.due("months(4)", -1, h.months(4));
        CHECKS.due("months(3)", 99, h.months(3));
        CHECKS.due("months(1)", -1, h.months(1));
        CHECKS.due("move above 99", 2, h.move(2, 0, 100));
        CHECKS.due("move at 99", 0, h.move(2, 0, 99));
        CHECKS.due("tree at 100", -2, h.tree(2, 100, 0));
        CHECKS.due("tree at 99", 0, h.tree(2, 99, 0));
        CHECKS.due("common at 100", -1, h.common(1, 2, 100));
        CHECKS.due("due at 111", 0, h.due(1, 111));
        CHECKS.due("due at 112", -1, h.due(1, 112));
    }

    private static void moves() {
        CHECKS.about("promises 8, 16, 17");
        CommissionHouse h = crew(new CommissionHouse(), 0, 1, 2);
        CHECKS.due("why(0, 1, 0)", 1, h.why(0, 1, 0));
        CHECKS.due("why(1, 9, 0)", 1, h.why(1, 9, 0));
        CHECKS.due("why(9, 1, 0)", 1, h.why(9, 1, 0));
        CHECKS.due("why(-1, 1, 0)", 1, h.why(-1, 1, 0));
        CHECKS.due("why(1, -1, 99)", 1, h.why(1, -1, 99));
        CHECKS.due("why(2, 0, -1)", 2, h.why(2, 0, -1));
        CHECKS.due("why(2, 0, 7)", 2, h.why(2, 0, 7));
        CHECKS.due("why(2, 0, 6)", 0, h.why(2, 0, 6));
        CHECKS.due("why(2, 0, min)", 2, h.why(2, 0, Integer.MIN_VALUE));
        CHECKS.due("why(2, 1, 0)", 4, h.why(2, 1, 0));
        CHECKS.due("why(1, 3, 0)", 5, h.why(1, 3, 0));
        CHECKS.due("why(1, 1, 0)", 5, h.why(1, 1, 0));
        CHECKS.due("move(3, 0, 4)", 0, h.move(3, 0, 4));
        CHECKS.due("tree(3, 3, 0)", 2, h.tree(3, 3, 0));
        CHECKS.due("tree(3, 4, 0)", 0, h.tree(3, 4, 0));
        CHECKS.due("why(1, 3, 3)", 5, h.why(1, 3, 3));
        CHECKS.due("move(1, 3, 3)", 5, h.move(1, 3, 3));
        CHECKS.due("seller(1, 2)", 0, h.seller(1, 2));
        CHECKS.due("move(1, 3, 5)", 0, h.move(1, 3, 5));
        // fine at month 4, a ring at month 5
        CHECKS.due("why(3, 2, 4)", 5, h.why(3, 2, 4));
        CHECKS.due("join(0)", 4, h.join(0));
        CHECKS.due("move(3, 4, 4)", 0, h.move(3, 4, 4));
        CHECKS.due("seller(3, 2)", 1, h.seller(3, 2));
        CHECKS.due("moved(3, 0, 0)", 4, h.moved(3, 0, 0));
        CHECKS.due("moved(3, 0, 1)", 4, h.moved(3, 0, 1));
        CHECKS.due("move(3, 1, 2)", 0, h.move(3, 1, 2));
        CHECKS.due("moved(3, 0, 0)", 2, h.moved(3, 0, 0));
        CHECKS.due("moved(3, 0, 1)", 1, h.moved(3, 0, 1));
        CHECKS.due("moved(3, 1, 0)", 4, h.moved(3, 1, 0));
        CHECKS.due("moved(3, 2, 0)", -2, h.moved(3, 2, 0));
        CHECKS.due("moved(3, -1, 0)", -2, h.moved(3, -1, 0));
        CHECKS.due("moved(3, 0, 2)", -2, h.moved(3, 0, 2));
        CHECKS.due("moved(5, 0, 0)", -2, h.moved(5, 0, 0));
        // his own move of month 4 ends this one ahead of the ring of month 5
        CHECKS.due("why(3, 2, 3)", 0, h.why(3, 2, 3));
        CHECKS.due("months(1)", 1, h.months(1));
        CHECKS.due("why(2, 0, 0)", 2, h.why(2, 0, 0));
        CHECKS.due("why(2, 0, 7)", 0, h.why(2, 0, 7));
    }

    private static void twelveMoves() {
        CHECKS.about("promises 8, 15, 17: twelve moves");
        CommissionHouse h = crew(new CommissionHouse(), 0, 0, 0);
        for (int m = 0; m <= 6; m++) {
            CHECKS.due("move", 0, h.move(3, 1 + m % 2, m));
        }
        h.months(6);
        for (int m = 7; m <= 11; m++) {
            CHECKS.due("move", 0, h.move(3, 1 + m % 2, m));
        }
        CHECKS.due("seller(3, 2)", 12, h.seller(3, 2));
        CHECKS.due("why(3, 1, 12)", 6, h.why(3, 1, 12));
        CHECKS.due("move(3, 1, 12)", 6, h.move(3, 1, 12));
        CHECKS.due("why(3, 2, 12)", 4, h.why(3, 2, 12));
        CHECKS.due("why(3, 3, 12)", 5, h.why(3, 3, 12));
        CHECKS.due("move(3, 1, 11)", 0, h.move(3, 1, 11));
        CHECKS.due("seller(3, 2)", 12, h.seller(3, 2));
        CHECKS.due("moved(3, 11, 0)", 11, h.moved(3, 11, 0));
        CHECKS.due("moved(3, 11, 1)", 1, h.moved(3, 11, 1));
        CHECKS.due("moved(3, 12, 0)", -2, h.moved(3, 12, 0));
        CHECKS.due("tree(3, 12, 10)", 0, h.tree(3, 12, 10));
        CHECKS.due("tree(3, 11, 10)", 5, h.tree(3, 11, 10));
        CHECKS.due("tree(3, 5, 10)", 0, h.tree(3, 5, 10));
        CHECKS.due("tree(0, 6, 10)", 0, h.tree(0, 6, 10));
    }

    private static void movesWithQuits() {
        CHECKS.about("promises 8, 9: quit");
        CommissionHouse h = crew(new CommissionHouse(), 0, 1, 0);
        CHECKS.due("quit(0)", -1, h.quit(0));
        CHECKS.due("quit(4)", -1, h.quit(4));
        CHECKS.due("quit(-1)", -1, h.quit(-1));
        CHECKS.due("quit(1)", 0, h.quit(1));
        CHECKS.due("quit(1) again", -1, h.quit(1));
        CHECKS.due("why(1, 0, 9)", 2, h.why(1, 0, 9));
        CHECKS.due("why(1, 0, 0)", 3, h.why(1, 0, 0));
        CHECKS.due("why(3, 1, 0)", 3, h.why(3, 1, 0));
        CHECKS.due("why(2, 1, 0)", 3, h.why(2, 1, 0));
        CHECKS.due("why(2, 3, 0)", 0, h.why(2, 3, 0));
        CHECKS.due("join(1)", -1, h.join(1));
        CHECKS.due("tree(0, 0, 2)", 15, h.tree(0, 0, 2));
        CHECKS.due("tree(0, 0, 3)", 10, h.tree(0, 0, 3));
        CHECKS.due("books(15)", 2, h.books(15));
        row(h, "line", line(h, 1, 0), 3, 0, 0, -1);
    }

    private static void tree() {
        CHECKS.about("promises 15, 18");
        CommissionHouse h = crew(new CommissionHouse(), 0, 1, 1);
        h.months(2);
        CHECKS.due("join(3)", 4, h.join(3));
        CHECKS.due("move(3, 0, 5)", 0, h.move(3, 0, 5));
        CHECKS.due("tree(0, 1, 2)", 15, h.tree(0, 1, 2));
        CHECKS.due("tree(0, 2, 2)", 31, h.tree(0, 2, 2));
        CHECKS.due("tree(1, 4, 2)", 30, h.tree(1, 4, 2));
        CHECKS.due("tree(1, 5, 2)", 6, h.tree(1, 5, 2));
        CHECKS.due("tree(1, 4, 3)", 12, h.tree(1, 4, 3));
        CHECKS.due("tree(0, 5, 3)", 10, h.tree(0, 5, 3));
        CHECKS.due("tree(3, 1, 3)", 0, h.tree(3, 1, 3));
        CHECKS.due("tree(3, 2, 3)", 16, h.tree(3, 2, 3));
        CHECKS.due("tree(0, 1, 9)", 2, h.tree(0, 1, 9));
        CHECKS.due("tree(0, 4, 9)", 3, h.tree(0, 4, 9));
        CHECKS.due("tree(0, 5, 9)", 2, h.tree(0, 5, 9));
        CHECKS.due("tree(4, 5, 9)", 0, h.tree(4, 5, 9));
        CHECKS.due("tree(4, 4, 1)", 3, h.tree(4, 4, 1));
        CHECKS.due("tree(4, 5, 1)", 2, h.tree(4, 5, 1));
        CHECKS.due("tree(4, 1, 0)", -2, h.tree(4, 1, 0));
        CHECKS.due("tree(0, 0, 0)", -1, h.tree(0, 0, 0));
        CHECKS.due("tree(0, 8, 3)", 10, h.tree(0, 8, 3));
        CHECKS.due("tree(0, 9, 3)", -2, h.tree(0, 9, 3));
        CHECKS.due("tree(0, -1, 3)", -2, h.tree(0, -1, 3));
        for (int what = 4; what <= 8; what++) {
            CHECKS.due("tree(0, 3, " + what + ")", -2, h.tree(0, 3, what));
            CHECKS.due("tree(0, 2, " + what + ")", 0, h.tree(0, 2, what));
        }
        CHECKS.due("tree(0, 0, 11)", -2, h.tree(0, 0, 11));
        CHECKS.due("tree(0, 0, -1)", -2, h.tree(0, 0, -1));
        CHECKS.due("tree(5, 0, 0)", -2, h.tree(5, 0, 0));
        CHECKS.due("tree(4, 2, 10)", 7, h.tree(4, 2, 10));
        CHECKS.due("common(2, 4, 4)", 1, h.common(2, 4, 4));
        CHECKS.due("common(2, 4, 5)", 0, h.common(2, 4, 5));
        CHECKS.due("common(4, 3, 4)", 3, h.common(4, 3, 4));
        CHECKS.due("common(3, 4, 4)", 3, h.common(3, 4, 4));
        CHECKS.due("common(2, 2, 0)", 2, h.common(2, 2, 0));
        CHECKS.due("common(2, 4, 1)", -1, h.common(2, 4, 1));
        CHECKS.due("common(2, 5, 4)", -1, h.common(2, 5, 4));
        CHECKS.due("common(-1, 2, 4)", -1, h.common(-1, 2, 4));
        CHECKS.due("common(2, 3, 8)", 0, h.common(2, 3, 8));
        CHECKS.due("common(2, 3, 9)", -1, h.common(2, 3, 9));
        CHECKS.due("common(2, 3, -1)", -1, h.common(2, 3, -1));
    }

    /** A chain 0, 1, 2, 3 in which all but 3 sell enough. */
    private static CommissionHouse chain() {
        CommissionHouse h = crew(new CommissionHouse(), 0, 1, 2);
        CHECKS.due("sell", 0, h.sell(0, 100, 0));
        CHECKS.due("sell", 1, h.sell(1, 200, 0));
        CHECKS.due("sell", 2, h.sell(2, 1000, 0));
        CHECKS.due("sell", 3, h.sell(3, 50, 0));
        return h;
    }

    private static void paysOfDefaultPlan() {
        CHECKS.about("promises 10, 19, 20");
        CommissionHouse h = chain();
        CHECKS.due("sale(0, 6)", 0, h.sale(0, 6));
        CHECKS.due("pay(0, 1, 0)", -2, h.pay(0, 1, 0));
        row(h, "sale 1, level 1", payRow(h, 1, 1), 0, 10, 20, 0, 0, 0, 1, 20, 0);
        row(h, "sale 2, level 1", payRow(h, 2, 1), 1, 10, 100, 0, 0, 1, 1, 100, 0);
        row(h, "sale 2, level 2", payRow(h, 2, 2), 0, 5, 50, 0, 0, 1, 2, 50, 0);
        row(h, "sale 3, level 1", payRow(h, 3, 1), 2, 10, 5, 0, 0, 0, 1, 5, 0);
        row(h, "sale 3, level 2", payRow(h, 3, 2), 1, 5, 2, 0, 0, 1, 2, 2, 0);
        row(h, "sale 3, level 3", payRow(h, 3, 3), 0, 0, 0, 0, 0, 1, 3, 0, 0);
        row(h, "sale 2", saleRow(h, 2), 2, 1000, 0, 0, 0, 1000, 2, 150, 150, 0, 0);
        row(h, "sale 3", saleRow(h, 3), 3, 50, 0, 0, 0, 50, 3, 7, 7, 0, 0);
        CHECKS.due("pay(3, 4, 0)", -2, h.pay(3, 4, 0));
        CHECKS.due("pay(3, 0, 0)", -2, h.pay(3, 0, 0));
        CHECKS.due("pay(3, -1, 0)", -2, h.pay(3, -1, 0));
        CHECKS.due("pay(3, 6, 0)", -2, h.pay(3, 6, 0));
        CHECKS.due("pay(3, 1, 9)", -2, h.pay(3, 1, 9));
        CHECKS.due("pay(3, 1, -1)", -2, h.pay(3, 1, -1));
        CHECKS.due("pay(4, 1, 0)", -2, h.pay(4, 1, 0));
        CHECKS.due("sale(4, 0)", -2, h.sale(4, 0));
        CHECKS.due("sale(-1, 0)", -2, h.sale(-1, 0));
        CHECKS.due("sale(3, 11)", -2, h.sale(3, 11));
        CHECKS.due("sale(3, -1)", -2, h.sale(3, -1));
        row(h, "books", bookRow(h), 0, 4, 4, 1350, 1350, 177, 177, 0, 0, 0, 177, 0, 0, 0, 0, 0, 7, 0, 1, 0);
        CHECKS.due("tree(0, 0, 4)", 100, h.tree(0, 0, 4));
        CHECKS.due("tree(2, 0, 5)", 1000, h.tree(2, 0, 5));
        CHECKS.due("tree(2, 0, 6)", 1050, h.tree(2, 0, 6));
        CHECKS.due("tree(0, 0, 6)", 1350, h.tree(0, 0, 6));
        CHECKS.due("tree(2, 0, 7)", 1, h.tree(2, 0, 7));
        CHECKS.due("tree(3, 0, 7)", 0, h.tree(3, 0, 7));
        CHECKS.due("tree(1, 0, 8)", 1, h.tree(1, 0, 8));
        CHECKS.due("tree(2, 0, 8)", 0, h.tree(2, 0, 8));
        h.months(1);
        CHECKS.due("tree(0, 1, 4)", 0, h.tree(0, 1, 4));
        CHECKS.due("tree(0, 1, 6)", 1350, h.tree(0, 1, 6));
        h.months(1);
        CHECKS.due("tree(0, 2, 6)", 0, h.tree(0, 2, 6));
    }

    private static void earnedAndDrawn() {
        CHECKS.about("promises 12, 14, 26, 27, 28");
        CommissionHouse h = chain();
        CHECKS.due("draw(0, 1)", -1, h.draw(0, 1));
        h.months(1);
        row(h, "seller 0", sellerRow(h, 0), 0, -1, 0, 22, 0, 22, 48, 0, 1, 0, 1, 0);
        row(h, "seller 1", sellerRow(h, 1), 0, -1, 0, 33, 0, 33, 69, 0, 1, 0, 1, 6);
        row(h, "seller 2", sellerRow(h, 2), 0, -1, 0, 1, 0, 1, 4, 0, 0, 0, 1, 49);
        int[] due = {22, 46, 70, 70};
        for (int m = 1; m <= 4; m++) {
            CHECKS.due("due(0, " + m + ")", due[m - 1], h.due(0, m));
        }
        CHECKS.due("due(0, 13)", 70, h.due(0, 13));
        CHECKS.due("due(0, 14)", -1, h.due(0, 14));
        CHECKS.due("due(0, 0)", -1, h.due(0, 0));
        CHECKS.due("due(4, 1)", -1, h.due(4, 1));
        CHECKS.due("ready(0, 22)", 1, h.ready(0, 22));
        CHECKS.due("ready(0, 46)", 2, h.ready(0, 46));
        CHECKS.due("ready(0, 47)", 3, h.ready(0, 47));
        CHECKS.due("ready(0, 71)", -1, h.ready(0, 71));
        CHECKS.due("ready(0, min)", 1, h.ready(0, Integer.MIN_VALUE));
        CHECKS.due("ready(4, 0)", -1, h.ready(4, 0));
        CHECKS.due("draw(0, 23)", -1, h.draw(0, 23));
        CHECKS.due("draw(0, 0)", -1, h.draw(0, 0));
        CHECKS.due("draw(0, -1)", -1, h.draw(0, -1));
        CHECKS.due("draw(4, 1)", -1, h.draw(4, 1));
        CHECKS.due("draw(0, 20)", 2, h.draw(0, 20));
        CHECKS.due("draw(0, 2)", 0, h.draw(0, 2));
        CHECKS.due("ready(0, 1)", 2, h.ready(0, 1));
        CHECKS.due("ready(0, 49)", -1, h.ready(0, 49));
        CHECKS.due("journal(0, NONE, 0)", 4, h.journal(0, -1, 0));
        row(h, "line 0", line(h, 0, 0), 2, 1, 2, -1);
        row(h, "line 1", line(h, 0, 1), 2, 1, 20, -1);
        row(h, "line 2", line(h, 0, 2), 0, 0, 50, 2);
        row(h, "line 3", line(h, 0, 3), 0, 0, 20, 1);
        row(h, "line 4", line(h, 0, 4), -2, -2, -2, -2);
        CHECKS.due("journal(0, NONE, 1)", -2, h.journal(0, -1, 1));
        CHECKS.due("journal(0, 0, 4)", -2, h.journal(0, 0, 4));
        CHECKS.due("journal(0, 0, -1)", -2, h.journal(0, 0, -1));
        CHECKS.due("journal(0, -2, 0)", -2, h.journal(0, -2, 0));
        CHECKS.due("journal(4, NONE, 0)", -2, h.journal(4, -1, 0));
        CHECKS.due("journal(3, NONE, 0)", 0, h.journal(3, -1, 0));
    }

    private static void back() {
        CHECKS.about("promises 11, 19, 28, 29");
        CommissionHouse h = chain();
        h.months(1);
        h.draw(0, 22);
        h.draw(1, 20);
        CHECKS.due("back(4, 1)", -1, h.back(4, 1));
        CHECKS.due("back(-1, 1)", -1, h.back(-1, 1));
        CHECKS.due("back(2, 0)", -1, h.back(2, 0));
        CHECKS.due("back(2, 101)", -1, h.back(2, 101));
        CHECKS.due("sale(2, 10)", 2, h.sale(2, 10));
        CHECKS.due("sale(3, 10)", 0, h.sale(3, 10));
        CHECKS.due("back(2, 50)", 75, h.back(2, 50));
        CHECKS.due("back(2, 51)", -1, h.back(2, 51));
        CHECKS.due("back(2, max)", -1, h.back(2, Integer.MAX_VALUE));
        row(h, "sale 2", saleRow(h, 2), 2, 1000, 0, 0, 50, 500, 2, 150, 75, 1, 2);
        row(h, "sale 2, level 1", payRow(h, 2, 1), 1, 10, 100, 0, 0, 1, 1, 50, 16);
        CHECKS.due("tree(2, 0, 4)", 500, h.tree(2, 0, 4));
        CHECKS.due("tree(1, 0, 8)", 0, h.tree(1, 0, 8));
        CHECKS.due("seller(0, 5)", -8, h.seller(0, 5));
        CHECKS.due("seller(1, 5)", -4, h.seller(1, 5));
        CHECKS.due("sale(1, 10)", 2, h.sale(1, 10));
        CHECKS.due("sale(0, 10)", 2, h.sale(0, 10));
        row(h, "line", line(h, 0, 0), 1, 1, 25, 2);
        row(h, "line", line(h, 1, 0), 1, 1, 50, 2);
        row(h, "books", bookRow(h), 1, 4, 4, 1350, 850, 177, 102, 0, 0, 31, 71, 0, 42, 12, 2, 0, 0, 3, 0, 0);
        CHECKS.due("draw(0, 1)", -1, h.draw(0, 1));
        CHECKS.due("ready(0, 0)", 2, h.ready(0, 0));
        // of 5 and 2, cut down: 4 and 1, then 4 and 1 again
        CHECKS.due("back(3, 1)", 2, h.back(3, 1));
        CHECKS.due("back(3, 1)", 0, h.back(3, 1));
        CHECKS.due("journal(2, NONE, 0)", 2, h.journal(2, -1, 0));
        CHECKS.due("back(3, 98)", 5, h.back(3, 98));
        CHECKS.due("back(3, 1)", -1, h.back(3, 1));
        CHECKS.due("sale(3, 5)", 0, h.sale(3, 5));
    }

    private static void quits() {
        CHECKS.about("promises 9, 14");
        CommissionHouse h = chain();
        h.months(1);
        CHECKS.due("quit(2)", 4, h.quit(2));
        row(h, "line", line(h, 2, 0), 3, 1, 4, -1);
        h.months(5);
        row(h, "seller 2", sellerRow(h, 2), 0, 1, 0, 1, 0, 1, 0, 4, 0, 0, 1, 150);
        CHECKS.due("due(2, 18)", 1, h.due(2, 18));
        CHECKS.due("ready(2, 2)", -1, h.ready(2, 2));
        CHECKS.due("books(11)", 4, h.books(11));
        CHECKS.due("books(10)", 0, h.books(10));
        CHECKS.due("draw(2, 1)", 0, h.draw(2, 1));
        CHECKS.due("back(3, 50)", 4, h.back(3, 50));
        CHECKS.due("seller(2, 5)", -1, h.seller(2, 5));
        CHECKS.due("seller(2, 7)", 2, h.seller(2, 7));
        CHECKS.due("tree(2, 0, 7)", 1, h.tree(2, 0, 7));
        CHECKS.due("gap(2, 1)", -1, h.gap(2, 1));
    }

    private static void lateSales() {
        CHECKS.about("promise 10: late ones");
        CommissionHouse h = crew(new CommissionHouse(), 0, 1);
        h.sell(0, 100, 0);
        h.sell(1, 100, 0);
        CHECKS.due("move(2, 0, 1)", 0, h.move(2, 0, 1));
        h.months(1);
        CHECKS.due("quit(1)", 0, h.quit(1));
        CHECKS.due("sell", 2, h.sell(2, 200, 0));
        row(h, "late", payRow(h, 2, 1), 1, 10, 20, 0, 0, 0, 1, 20, 0);
        row(h, "late, level 2", payRow(h, 2, 2), 0, 5, 0, 10, 0, 0, 2, 0, 0);
        CHECKS.due("repaid, nobody is active", 0, h.repaid(2, 0, 0));
        CHECKS.due("sale(2, 9)", 1, h.sale(2, 9));
        CHECKS.due("sell", 3, h.sell(0, 100, 1));
        CHECKS.due("sell", 4, h.sell(2, 200, 1));
        row(h, "now", payRow(h, 4, 1), 0, 10, 20, 0, 0, 0, 1, 20, 0);
        CHECKS.due("repaid(2, 0, 0)", 1, h.repaid(2, 0, 0));
        CHECKS.due("repaid(2, 1, 0)", 0, h.repaid(2, 1, 0));
        CHECKS.due("sale(4, 9)", 0, h.sale(4, 9));
        h.months(2);
        CHECKS.due("vested, he had quit", 0, h.pay(2, 1, 8));
        CHECKS.due("seller(1, 7)", 20, h.seller(1, 7));
        CHECKS.due("vested of sale 4", 13, h.pay(4, 1, 8));
        CHECKS.due("books(7)", 10, h.books(7));
    }

    private static void sellRefused() {
        CHECKS.about("promise 10: refused");
        CommissionHouse h = crew(new CommissionHouse(), 0);
        CHECKS.due("sell(2, 1, 0)", -1, h.sell(2, 1, 0));
        CHECKS.due("sell(-1, 1, 0)", -1, h.sell(-1, 1, 0));
        CHECKS.due("sell(0, 0, 0)", -1, h.sell(0, 0, 0));
        CHECKS.due("sell(0, 10000, 0)", -1, h.sell(0, 10000, 0));
        CHECKS.due("sell(0, 1, 1)", -1, h.sell(0, 1, 1));
        CHECKS.due("sell(0, 1, -1)", -1, h.sell(0, 1, -1));
        CHECKS.due("sell(0, 9999, 0)", 0, h.sell(0, 9999, 0));
        h.months(3);
        CHECKS.due("sell(0, 1, 0)", -1, h.sell(0, 1, 0));
        CHECKS.due("sell(0, 1, min)", -1, h.sell(0, 1, Integer.MIN_VALUE));
        CHECKS.due("sell(0, 1, 1)", 1, h.sell(0, 1, 1));
        CHECKS.due("join(0)", 2, h.join(0));
        CHECKS.due("sell(2, 1, 2)", -1, h.sell(2, 1, 2));
        CHECKS.due("sell(2, 1, 3)", 2, h.sell(2, 1, 3));
        h.quit(2);
        CHECKS.due("sell(2, 1, 3)", -1, h.sell(2, 1, 3));
        CHECKS.due("quote(2, 1, 0, 0)", -2, h.quote(2, 1, 0, 0));
        for (int n = 3; n < 40; n++) {
            CHECKS.due("sell", n, h.sell(0, 9999, 3));
        }
        CHECKS.due("sell a 41st", -1, h.sell(0, 1, 3));
        CHECKS.due("quote(1, 100, 0, 0)", 1, h.quote(1, 100, 0, 0));
        CHECKS.due("quote(1, 100, 1, 2)", 10, h.quote(1, 100, 1, 2));
        CHECKS.due("place(0, 100, true)", 10, h.place(0, 100, true));
        CHECKS.due("tree(0, 3, 4)", 37 * 9999, h.tree(0, 3, 4));
        CHECKS.due("seller(0, 10)", 39, h.seller(0, 10));
    }

    private static void forms() {
        CHECKS.about("promise 21");
        CommissionHouse h = crew(planned("level 1 sum flat 3 ranked 4;level 2 more wide 6 loyal 1 9;"
            + "level 3 less flat 8 wide 20;quota 50;cap 20;vest 0;window 1;rank 1 100 0;rank 2 300 1;rank 3 900 2;"
            + "opens 0 1;opens 1 2;opens 2 3;opens 3 5;"), 0, 1, 2);
        h.sell(0, 50, 0);
        h.sell(1, 50, 0);
        h.sell(2, 50, 0);
        CHECKS.due("levels", 3, h.quote(3, 1000, 0, 99));
        int[][] want = {{2, 11, 110, 0, 0, 2, 1}, {1, 6, 60, 0, 0, 2, 2}, {0, 8, 30, 0, 50, 2, 3}};
        for (int level = 1; level <= 3; level++) {
            for (int what = 0; what <= 6; what++) {
                CHECKS.due("quote " + level + " " + what, want[level - 1][what], h.quote(3, 1000, level, what));
            }
            CHECKS.due("quote what 7", -2, h.quote(3, 1000, level, 7));
            CHECKS.due("quote what -1", -2, h.quote(3, 1000, level, -1));
        }
        CHECKS.due("quote level 4", -2, h.quote(3, 1000, 4, 0));
        CHECKS.due("quote level 6", -2, h.quote(3, 1000, 6, 0));
        CHECKS.due("quote level -1", -2, h.quote(3, 1000, -1, 0));
        CHECKS.due("quote of none", -2, h.quote(4, 1000, 0, 0));
        CHECKS.due("quote of 0", -2, h.quote(3, 0, 0, 0));
        CHECKS.due("quote of 10000", -2, h.quote(3, 10000, 0, 0));
        CHECKS.due("a quote sells nothing", 3, h.books(2));
        CHECKS.due("sell", 3, h.sell(3, 1000, 0));
        CHECKS.due("pay(3, 3, 2)", 30, h.pay(3, 3, 2));
        CHECKS.due("books(8)", 50, h.books(8));
        h.months(1);
        h.sell(0, 50, 1);
        h.sell(1, 50, 1);
        CHECKS.due("loyal now", 9, h.quote(3, 49, 2, 1));
        CHECKS.due("99 is no rank 1", 0, h.quote(3, 49, 1, 5));
        CHECKS.due("100 is", 1, h.quote(3, 50, 1, 5));
        CHECKS.due("2 is passed by", 2, h.quote(3, 50, 1, 6));
    }

    private static void percents() {
        CHECKS.about("percents");
        CommissionHouse h = crew(planned("level 1 wide 20;level 2 sum wide 20 flat 1;quota 0;cap 99;"
            + "opens 0 5;rank 1 9999 0;rank 2 9999 0;rank 3 9999 0;vest 0;"), 0, 1, 1, 1, 1, 1, 1);
        CHECKS.due("five at most", 100, h.quote(2, 100, 1, 1));
        CHECKS.due("the cap of 99", 99, h.quote(2, 100, 1, 2));
        CHECKS.due("cut", 1, h.quote(2, 100, 1, 4));
        CHECKS.due("wide and flat", 21, h.quote(2, 100, 2, 1));
        CHECKS.due("nothing left", 0, h.quote(2, 100, 2, 2));
        CHECKS.due("all cut", 21, h.quote(2, 100, 2, 4));
        CHECKS.due("move(7, 0, 0)", 0, h.move(7, 0, 0));
        CHECKS.due("move(6, 0, 0)", 0, h.move(6, 0, 0));
        CHECKS.due("move(5, 0, 0)", 0, h.move(5, 0, 0));
        CHECKS.due("three are left", 60, h.quote(2, 100, 1, 1));
        CHECKS.due("four of 0", 81, h.quote(2, 100, 2, 1));
        CHECKS.due("join(0)", 8, h.join(0));
        CHECKS.due("100 at most", 100, h.quote(2, 100, 2, 1));
    }

    private static void vestingAtOnce() {
        CHECKS.about("vest 0");
        CommissionHouse h = crew(planned("vest 0;"), 0);
        h.sell(0, 100, 0);
        h.sell(1, 105, 0);
        CHECKS.due("seller(0, 3)", 10, h.seller(0, 3));
        CHECKS.due("seller(0, 6)", 0, h.seller(0, 6));
        CHECKS.due("draw(0, 10)", 0, h.draw(0, 10));
        CHECKS.due("sale(1, 10)", 1, h.sale(1, 10));
    }

    private static void repaid() {
        CHECKS.about("promise 22");
        CommissionHouse h = chain();
        CHECKS.due("back(2, 50)", 75, h.back(2, 50));
        CHECKS.due("levels", 2, h.repaid(2, 0, -7));
        int[] want = {1, 10, 50, 0, 0, 0, 1};
        for (int what = 0; what <= 6; what++) {
            CHECKS.due("repaid(2, 1, " + what + ")", want[what], h.repaid(2, 1, what));
        }
        CHECKS.due("repaid(2, 2, 3), rank 0 opens one", 25, h.repaid(2, 2, 3));
        CHECKS.due("repaid(2, 1, 7)", -2, h.repaid(2, 1, 7));
        CHECKS.due("repaid(2, 1, -1)", -2, h.repaid(2, 1, -1));
        CHECKS.due("repaid(2, 3, 0)", -2, h.repaid(2, 3, 0));
        CHECKS.due("repaid(2, -1, 0)", -2, h.repaid(2, -1, 0));
        CHECKS.due("repaid(4, 0, 0)", -2, h.repaid(4, 0, 0));
        CHECKS.due("sale(2, 9)", 0, h.sale(2, 9));
        CHECKS.due("back(3, 100)", 7, h.back(3, 100));
        CHECKS.due("a net of 0 takes levels", 3, h.repaid(3, 0, 0));
        CHECKS.due("and pays 0", 0, h.repaid(3, 1, 2));
        CHECKS.due("move(2, 0, 0)", 0, h.move(2, 0, 0));
        CHECKS.due("sale(2, 9)", 1, h.sale(2, 9));
        CHECKS.due("sale(3, 9)", 1, h.sale(3, 9));
        CHECKS.due("sale(1, 9)", 0, h.sale(1, 9));
        CHECKS.due("books(17)", 2, h.books(17));
        CHECKS.due("who took it stays", 1, h.pay(2, 1, 0));
    }

    private static void gapAndLift() {
        CHECKS.about("promises 23, 24");
        String plan = "rank 1 100 1;rank 2 150 2;rank 3 9999 4;quota 40;window 2;";
        CommissionHouse h = crew(planned(plan), 0, 0, 1);
        CHECKS.due("gap(0, 1)", -1, h.gap(0, 1));
        h.sell(1, 40, 0);
        CHECKS.due("gap(0, 1)", 60, h.gap(0, 1));
        CHECKS.due("gap(0, 2)", -1, h.gap(0, 2));
        h.sell(2, 40, 0);
        CHECKS.due("gap(0, 1)", 20, h.gap(0, 1));
        CHECKS.due("gap(0, 2)", 70, h.gap(0, 2));
        CHECKS.due("gap(0, 3)", -1, h.gap(0, 3));
        CHECKS.due("gap(0, 0)", -1, h.gap(0, 0));
        CHECKS.due("gap(0, 4)", -1, h.gap(0, 4));
        CHECKS.due("gap(4, 1)", -1, h.gap(4, 1));
        h.sell(0, 80, 0);
        CHECKS.due("gap(0, 1)", 0, h.gap(0, 1));
        CHECKS.due("gap(0, 2)", 0, h.gap(0, 2));
        h = crew(planned("rank 1 500 0;rank 2 150 2;rank 3 120 3;quota 40;"), 0, 0, 0);
        CHECKS.due("gap to 1 by rank 1", 500, h.gap(0, 1));
        h.sell(1, 40, 0);
        h.sell(2, 40, 0);
        CHECKS.due("gap to 1 by rank 2", 70, h.gap(0, 1));
        h.sell(3, 40, 0);
        CHECKS.due("gap to 1 by rank 3", 0, h.gap(0, 1));

        h = crew(planned(plan), 0, 0, 1);
        CHECKS.due("lift(0, 1) how many", 3, h.lift(0, 1, false));
        CHECKS.due("lift(0, 1) which", 14, h.lift(0, 1, true));
        CHECKS.due("lift(0, 2)", -1, h.lift(0, 2, true));
        h.sell(3, 30, 0);
        CHECKS.due("lift(0, 1) how many", 2, h.lift(0, 1, false));
        CHECKS.due("lift(0, 1) which", 6, h.lift(0, 1, true));
        h.sell(0, 70, 0);
        CHECKS.due("lift(0, 1) how many", 1, h.lift(0, 1, false));
        CHECKS.due("lift(0, 1) which", 2, h.lift(0, 1, true));
        CHECKS.due("lift(0, 2) which", 6, h.lift(0, 2, true));
        CHECKS.due("lift(0, 3)", -1, h.lift(0, 3, true));
        CHECKS.due("lift(1, 1)", -1, h.lift(1, 1, false));
        CHECKS.due("lift(0, 0)", -1, h.lift(0, 0, false));
        CHECKS.due("lift(0, 4)", -1, h.lift(0, 4, false));
        CHECKS.due("lift(4, 1)", -1, h.lift(4, 1, false));
        h.quit(1);
        CHECKS.due("lift(0, 1) which", 4, h.lift(0, 1, true));
        h.sell(2, 40, 0);
        CHECKS.due("lift(0, 1) how many", 0, h.lift(0, 1, false));
        CHECKS.due("lift(0, 1) which", 0, h.lift(0, 1, true));
    }

    private static void place() {
        CHECKS.about("promise 25");
        CommissionHouse h = crew(new CommissionHouse(), 0, 1);
        h.sell(0, 100, 0);
        h.sell(1, 100, 0);
        CHECKS.due("place(0)", 0, h.place(0, 100, false));
        CHECKS.due("place(0) much", 10, h.place(0, 100, true));
        CHECKS.due("place(1)", 1, h.place(1, 100, false));
        CHECKS.due("place(1) much", 10, h.place(1, 100, true));
        CHECKS.due("place(2)", 0, h.place(2, 100, false));
        CHECKS.due("place(2) much", 0, h.place(2, 100, true));
        CHECKS.due("place(3)", -1, h.place(3, 100, false));
        CHECKS.due("place of 0", -1, h.place(0, 0, true));
        CHECKS.due("place of 10000", -1, h.place(0, 10000, true));
        h.quit(1);
        CHECKS.due("place(1), he has quit", 0, h.place(1, 100, false));
        CHECKS.due("place(1) much", 0, h.place(1, 100, true));
        h = crew(planned("level 1 ranked 10;quota 0;rank 1 500 2;rank 2 9999 4;rank 3 9999 4;opens 0 5;"),
            0, 0, 0, 0, 0, 0, 0, 0, 1);
        CHECKS.due("the new one is a leg, and of the group", 1, h.place(1, 500, false));
        CHECKS.due("and paid for it", 50, h.place(1, 500, true));
        CHECKS.due("too small a group: under 9, for level 2", 9, h.place(1, 499, false));
        CHECKS.due("level 2 is flat 5", 24, h.place(1, 499, true));
        CHECKS.due("still ten", 10, h.books(1));
        CHECKS.due("still none sold", 0, h.books(2));
    }

    /** A leg of 0 brings the rank that opens nothing, so the one place that pays is ten below him. */
    private static void placeFarBelow() {
        CHECKS.about("promise 25: ten below");
        CommissionHouse h = crew(planned("rank 1 500 0;rank 2 500 1;rank 3 9999 4;opens 0 0;opens 1 5;opens 2 0;quota 1;"),
            0, 1, 2, 3, 4, 5, 6, 7, 8);
        h.sell(0, 1, 0);
        for (int seller = 1; seller <= 8; seller++) {
            CHECKS.due("quit", 0, h.quit(seller));
        }
        CHECKS.due("under whom", 9, h.place(0, 499, false));
        CHECKS.due("how much", 49, h.place(0, 499, true));
        CHECKS.due("too small a group", 0, h.place(0, 498, false));
        CHECKS.due("pays nothing", 0, h.place(0, 498, true));
    }

    private static void journalOfMany() {
        CHECKS.about("promise 28: sixteen");
        CommissionHouse h = crew(planned("vest 0;quota 0;"), 0);
        for (int n = 0; n < 20; n++) {
            h.sell(1, 100 + n * 10, 0);
        }
        CHECKS.due("journal(0, NONE, 0)", 16, h.journal(0, -1, 0));
        CHECKS.due("the latest", 29, h.journal(0, 0, 2));
        CHECKS.due("the 16th", 14, h.journal(0, 15, 2));
        CHECKS.due("the 16th's sale", 4, h.journal(0, 15, 3));
        CHECKS.due("a 17th", -2, h.journal(0, 16, 2));
        h.draw(0, 7);
        row(h, "line 0", line(h, 0, 0), 2, 0, 7, -1);
        row(h, "line 15", line(h, 0, 15), 0, 0, 15, 5);
        h.sell(1, 9, 0);
        CHECKS.due("a pay of 0 is no line", 2, h.journal(0, 0, 0));
    }

    private static void ranksOverMonths() {
        CHECKS.about("promise 14: ranks, window");
        CommissionHouse h = crew(planned("rank 1 100 0;rank 2 200 0;rank 3 900 1;window 3;quota 1;"), 0);
        h.months(4);
        h.sell(1, 100, 4);
        h.months(1);
        h.sell(1, 100, 5);
        CHECKS.due("rank at 4", 1, h.tree(1, 4, 8));
        CHECKS.due("rank at 5", 2, h.tree(1, 5, 8));
        h.months(7);
        CHECKS.due("rank at 6", 2, h.tree(1, 6, 8));
        CHECKS.due("rank at 7", 1, h.tree(1, 7, 8));
        CHECKS.due("rank at 8", 0, h.tree(1, 8, 8));
        CHECKS.due("greatest", 2, h.seller(1, 8));
        CHECKS.due("first month of it", 5, h.seller(1, 9));
        h.back(1, 1);
        CHECKS.due("greatest, as known now", 1, h.seller(1, 8));
        CHECKS.due("first month of it", 4, h.seller(1, 9));
        h.sell(1, 150, 12);
        CHECKS.due("books(18)", 1, h.books(18));
        CHECKS.due("books(19)", 0, h.books(19));
        CHECKS.due("join(0)", 2, h.join(0));
        CHECKS.due("first month of a new one", 12, h.seller(2, 9));
        h.sell(2, 400, 12);
        h.sell(1, 300, 12);
        CHECKS.due("books(18)", 2, h.books(18));
        CHECKS.due("books(19)", 0, h.books(19));
        h.sell(2, 50, 12);
        CHECKS.due("books(18)", 3, h.books(18));
        CHECKS.due("books(16)", 6, h.books(16));
    }

    private static void images() {
        CHECKS.about("promises 30, 31");
        CommissionHouse h = chain();
        CHECKS.due("image(3)", false, h.image(3));
        CHECKS.due("image(-1)", false, h.image(-1));
        CHECKS.due("again(3)", false, h.again(3));
        CHECKS.due("again(-1)", false, h.again(-1));
        h.feed(0x71756f74, 0x6120373b, 0x63617020, 0x353b7665, 0x73742032);
        CHECKS.due("again(2)", false, h.again(2));
        CHECKS.due("image(2)", true, h.image(2));
        CHECKS.due("again(0)", false, h.again(0));
        int[] books = bookRow(h);
        int[] one = sellerRow(h, 1);
        CHECKS.due("plan()", -1, h.plan());
        CHECKS.due("fault(0)", 1, h.fault(0));
        CHECKS.due("image(0)", true, h.image(0));
        h.months(2);
        h.move(2, 0, 3);
        h.draw(1, 3);
        h.quit(3);
        h.back(1, 20);
        h.sell(1, 500, 1);
        h.end(0);
        CHECKS.due("plan()", 0, h.plan());
        CHECKS.due("again(2)", true, h.again(2));
        row(h, "books", bookRow(h), books);
        row(h, "seller 1", sellerRow(h, 1), one);
        CHECKS.due("moves", 0, h.seller(2, 2));
        CHECKS.due("fault(0)", 0, h.fault(0));
        CHECKS.due("fault(1)", -1, h.fault(1));
        CHECKS.due("journal", 2, h.journal(1, -1, 0));
        CHECKS.due("end(14)", 14, h.end(14));
        CHECKS.due("plan()", 0, h.plan());
        CHECKS.due("rule(0)", 7, h.rule(0));
        CHECKS.due("again(0)", true, h.again(0));
        CHECKS.due("rule(0)", 100, h.rule(0));
        CHECKS.due("fault(0)", 1, h.fault(0));
        CHECKS.due("fault(1)", 20, h.fault(1));
        CHECKS.due("end(1)", -1, h.end(1));
        CHECKS.due("pay(2, 1, 2)", 100, h.pay(2, 1, 2));
        h.months(1);
        CHECKS.due("an image is not what is", true, h.again(0));
        CHECKS.due("books(0)", 0, h.books(0));
    }
}
