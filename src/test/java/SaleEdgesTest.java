/** Boundary cases of Terms 3 and of promises 10 to 12, 14, 19, 20, 28 and 29: sales, pays, vesting, draws, journals, books. */
public final class SaleEdgesTest extends Edges {
    private static final int NO_SELLER = -1000000;

    private SaleEdgesTest() {
    }

    public static void main(String[] args) throws ReflectiveOperationException {
        run(SaleEdgesTest.class, "edges of sales");
    }

    /** Seller 0 is active, and has a pay of as much, to vest by 3 months, by sale 1, of seller 1. */
    private static CommissionHouse paid(int much) {
        CommissionHouse h = fresh(0);
        is(0, h.sell(0, 100, 0));
        is(1, h.sell(1, 10 * much, 0));
        is(much, h.pay(1, 1, 2));
        return h;
    }

    private static CommissionHouse fortySales() {
        CommissionHouse h = fresh(0);
        for (int sale = 0; sale < 40; sale++) {
            is(sale, h.sell(0, 10 + sale, 0));
        }
        return h;
    }

    /** Seller 1 is under 9, 8 .. 2, 0, and all are active. */
    private static CommissionHouse tenSellers() {
        CommissionHouse h = crew(planned("quota 0;vest 2;cap 8;level 2 flat 9;opens 0 1;rank 1 9999 0;rank 2 9999 0;"
            + "rank 3 9999 0;"), 0, 0, 2, 3, 4, 5, 6, 7, 8);
        is(0, h.move(1, 9, 0));
        return h;
    }

    // Terms 3: sales, what comes back, own, active, volume, group, rank.

    @Holds(in = "Terms 3", says = "A SALE is of a SELLER, an amount, a month.")
    static void aSale() {
        CommissionHouse h = pass(fresh(0), 2);
        is(0, h.sell(1, 77, 1));
        is(1, h.sale(0, 0));
        is(77, h.sale(0, 1));
        is(1, h.sale(0, 2));
        is(77, h.tree(1, 1, 4));
        is(0, h.tree(1, 2, 4));
        is(0, h.tree(1, 0, 4));
    }

    @Holds(in = "Terms 3", says = "BACK: by how many of a hundred it has come back.")
    static void backIsTogether() {
        CommissionHouse h = paid(100);
        is(0, h.sale(1, 4));
        h.back(1, 30);
        is(30, h.sale(1, 4));
        h.back(1, 20);
        is(50, h.sale(1, 4));
        h.back(1, 50);
        is(100, h.sale(1, 4));
        is(0, h.sale(0, 4));
    }

    @Holds(in = "Terms 3", says = "NET of a number: it by 100 less BACK, by 100, cut down.")
    static void netIsCutDown() {
        CommissionHouse h = fresh(0);
        h.sell(0, 9999, 0);
        h.sell(1, 99, 0);
        is(99, h.sale(1, 5));
        h.back(1, 1);
        is(98, h.sale(1, 5));
        // of a pay of 9 by 99 of a hundred
        is(9, h.pay(1, 1, 2));
        is(8, h.pay(1, 1, 7));
        h.back(1, 49);
        is(49, h.sale(1, 5));
        is(4, h.pay(1, 1, 7));
        h.back(1, 49);
        is(0, h.sale(1, 5));
        h.back(1, 1);
        is(0, h.sale(1, 5));
        h.back(0, 1);
        is(9899, h.sale(0, 5));
        h.back(0, 99);
        is(0, h.sale(0, 5));
    }

    @Holds(in = "Terms 3", says = "OWN of a SELLER at a month: NET of amounts of his SALES of that month together.")
    static void ownIsOfNets() {
        CommissionHouse h = fresh(0);
        h.sell(0, 1, 0);
        h.sell(0, 1, 0);
        h.sell(1, 70, 0);
        is(2, h.tree(0, 0, 4));
        h.back(0, 50);
        h.back(1, 50);
        // each of both is cut down by itself
        is(0, h.tree(0, 0, 4));
        is(70, h.tree(1, 0, 4));
        h.months(1);
        h.sell(0, 5, 1);
        h.sell(0, 6, 0);
        is(6, h.tree(0, 0, 4));
        is(5, h.tree(0, 1, 4));
    }

    @Holds(in = "Terms 3", says = "ACTIVE: he has not QUIT by that month,")
    static void whoQuitIsNotActive() {
        CommissionHouse h = fresh(0);
        h.sell(1, 100, 0);
        h.months(1);
        h.sell(1, 100, 1);
        is(1, h.tree(1, 1, 7));
        h.quit(1);
        is(1, h.tree(1, 0, 7));
        is(0, h.tree(1, 1, 7));
        h.months(1);
        is(0, h.tree(1, 2, 7));
        is(1, h.tree(1, 0, 7));
        // by a quota of 0, too
        h = crew(planned("quota 0;"), 0);
        is(1, h.tree(1, 0, 7));
        h.quit(1);
        is(0, h.tree(1, 0, 7));
        is(0b01, h.books(16));
    }

    @Holds(in = "Terms 3", says = "and OWN is QUOTA at least.")
    static void ownIsQuotaAtLeast() {
        CommissionHouse h = fresh(0);
        h.sell(1, 99, 0);
        is(0, h.tree(1, 0, 7));
        h.sell(1, 1, 0);
        is(1, h.tree(1, 0, 7));
        h.sell(1, 1, 0);
        is(1, h.tree(1, 0, 7));
        h.back(0, 2);
        is(0, h.tree(1, 0, 7));
        // the month's own, not that of the window
        h.months(1);
        h.sell(1, 99, 1);
        is(0, h.tree(1, 1, 7));
        is(1, planned("quota 0;").tree(0, 0, 7));
        h = planned("quota 9999;");
        h.sell(0, 9998, 0);
        is(0, h.tree(0, 0, 7));
        h.sell(0, 1, 0);
        is(1, h.tree(0, 0, 7));
    }

    @Holds(in = "Terms 3", says = "VOLUME: OWN of that month and those ahead of it, WINDOW months together;")
    static void volumeIsOfTheWindow() {
        for (int window = 1; window <= 6; window++) {
            CommissionHouse h = pass(planned("window " + window + ";"), 2);
            h.sell(0, 5, 1);
            h.sell(0, 7, 2);
            pass(h, 8);
            is(0, h.tree(0, 0, 5));
            for (int month = 1; month <= 10; month++) {
                int five = month >= 1 && month < 1 + window ? 5 : 0;
                int seven = month >= 2 && month < 2 + window ? 7 : 0;
                is(five + seven, h.tree(0, month, 5));
            }
        }
    }

    @Holds(in = "Terms 3", says = "GROUP: VOLUMES (at that month) of all BELOW him.")
    static void groupIsOfAllBelow() {
        CommissionHouse h = fresh(0, 1, 0);
        h.sell(0, 1, 0);
        h.sell(1, 10, 0);
        h.sell(2, 100, 0);
        h.sell(3, 1000, 0);
        is(1111, h.tree(0, 0, 6));
        is(110, h.tree(1, 0, 6));
        is(100, h.tree(2, 0, 6));
        // the tree of that month counts, not that in which it was sold; one who has quit, too
        h = fresh(0, 1, 0);
        h.sell(1, 10, 0);
        h.sell(2, 100, 0);
        h.sell(3, 1000, 0);
        is(0, h.move(2, 3, 1));
        h.quit(3);
        h.months(1);
        is(110, h.tree(1, 0, 6));
        is(10, h.tree(1, 1, 6));
        is(1100, h.tree(3, 1, 6));
        is(1110, h.tree(0, 1, 6));
        h.months(1);
        is(0, h.tree(0, 2, 6));
    }

    @Holds(in = "Terms 3", says = "RANK: the greatest one of which GROUP is the GOAL at least")
    static void rankByTheGroup() {
        CommissionHouse h = fresh(0);
        h.sell(1, 999, 0);
        is(0, h.tree(0, 0, 8));
        h.sell(0, 1, 0);
        is(1, h.tree(0, 0, 8));
        h.back(1, 1);
        is(0, h.tree(0, 0, 8));
        // a greater one, though one ahead of it is out of reach
        h = planned("rank 1 50 0;rank 2 9999 0;rank 3 100 0;");
        h.sell(0, 49, 0);
        is(0, h.tree(0, 0, 8));
        h.sell(0, 1, 0);
        is(1, h.tree(0, 0, 8));
        h.sell(0, 50, 0);
        is(3, h.tree(0, 0, 8));
        is(3, planned("rank 3 0 0;").tree(0, 0, 8));
        is(2, planned("rank 1 0 0;rank 2 0 0;").tree(0, 0, 8));
    }

    @Holds(in = "Terms 3", says = "and LEGS or more that are DIRECT under him are ACTIVE, else 0.")
    static void rankByTheLegs() {
        CommissionHouse h = crew(planned("rank 1 0 2;rank 2 0 3;rank 3 0 4;quota 10;"), 0, 0, 0, 1);
        is(0, h.tree(0, 0, 8));
        h.sell(1, 10, 0);
        is(0, h.tree(0, 0, 8));
        // he himself is no leg, and one who is not direct is none
        h.sell(0, 10, 0);
        h.sell(4, 10, 0);
        is(0, h.tree(0, 0, 8));
        h.sell(2, 9, 0);
        is(0, h.tree(0, 0, 8));
        h.sell(2, 1, 0);
        is(1, h.tree(0, 0, 8));
        h.sell(3, 10, 0);
        is(2, h.tree(0, 0, 8));
        is(0, h.move(4, 0, 0));
        is(3, h.tree(0, 0, 8));
        crew(h, 0);
        h.sell(5, 10, 0);
        is(3, h.tree(0, 0, 8));
        h.quit(5);
        h.quit(4);
        is(2, h.tree(0, 0, 8));
    }

    // Terms 3: what a sale pays.

    @Holds(in = "Terms 3", says = "A SALE PAYS as it is told: along the UPLINE of its SELLER at its month, from the SPONSOR on,")
    static void paysAlongTheUplineOfItsMonth() {
        CommissionHouse h = crew(planned("quota 0;opens 0 5;"), 0, 1, 0);
        is(0, h.move(2, 3, 1));
        pass(h, 2);
        is(0, h.sell(2, 100, 0));
        is(1, h.sell(2, 100, 1));
        is(2, h.sell(2, 100, 2));
        is(2, h.sale(0, 6));
        pays(h, 0, 1, 1, 10, 10, 0, 0);
        pays(h, 0, 2, 0, 5, 5, 0, 0);
        pays(h, 1, 1, 3, 10, 10, 0, 0);
        pays(h, 2, 1, 3, 10, 10, 0, 0);
        // the seller himself takes nothing, so that one of seller 0 pays nobody
        is(3, h.sell(0, 100, 2));
        is(0, h.sale(3, 6));
        is(-2, h.pay(3, 1, 0));
    }

    @Holds(in = "Terms 3", says = "each one who is ACTIVE at that month takes the next LEVEL, 1 to 5, others are passed by")
    static void theActiveTakeFiveLevels() {
        CommissionHouse h = crew(planned("quota 1;opens 0 5;level 3 flat 1;level 4 flat 1;level 5 flat 1;"),
            0, 1, 2, 3, 4, 5, 6, 7);
        for (int seller = 0; seller < 8; seller++) {
            h.sell(seller, 1, 0);
        }
        is(8, h.sell(8, 100, 0));
        is(5, h.sale(8, 6));
        for (int level = 1; level <= 5; level++) {
            is(8 - level, h.pay(8, level, 0));
            is(level, h.pay(8, level, 6));
        }
        is(-2, h.pay(8, 6, 0));
        // 7, 5 and 3 become idle
        for (int seller : new int[] {7, 5, 3}) {
            h.back(seller, 1);
        }
        is(9, h.sell(8, 100, 0));
        int[] takers = {6, 4, 2, 1, 0};
        int[] steps = {2, 4, 6, 7, 8};
        for (int level = 1; level <= 5; level++) {
            is(takers[level - 1], h.pay(9, level, 0));
            is(steps[level - 1], h.pay(9, level, 6));
        }
        for (int seller : new int[] {6, 4, 2, 1, 0}) {
            h.back(seller, 1);
        }
        is(10, h.sell(8, 100, 0));
        is(0, h.sale(10, 6));
        // idle in its month, active in that in which it is told, and the other way round
        h = crew(planned("quota 1;"), 0, 1);
        h.sell(1, 1, 0);
        h.months(1);
        h.sell(0, 1, 1);
        is(2, h.sell(2, 100, 0));
        is(1, h.sale(2, 6));
        is(1, h.pay(2, 1, 0));
        is(3, h.sell(2, 100, 1));
        is(1, h.sale(3, 6));
        is(0, h.pay(3, 1, 0));
    }

    @Holds(in = "Terms 3", says = "(all as at that month, this SALE counted).")
    static void thisSaleIsCounted() {
        CommissionHouse h = fresh(0);
        h.sell(0, 100, 0);
        quotes(h, 1, 899, 1, 0, 10, 89, 0, 0, 0, 1);
        quotes(h, 1, 900, 1, 0, 10, 90, 0, 0, 1, 1);
        is(1, h.sell(1, 900, 0));
        is(1, h.pay(1, 1, 5));
        // the seller's own sale makes him a leg at once
        h = crew(planned("rank 1 0 1;quota 10;"), 0);
        h.sell(0, 10, 0);
        is(0, h.quote(1, 9, 1, 5));
        is(1, h.quote(1, 10, 1, 5));
        // a late one counts for its month, and by what was sold then
        h = fresh(0);
        h.sell(0, 500, 0);
        h.months(2);
        is(1, h.sell(1, 499, 0));
        is(0, h.pay(1, 1, 5));
        is(2, h.sell(1, 1, 0));
        is(1, h.pay(2, 1, 5));
    }

    @Holds(in = "Terms 3", says = "WHOLE: the amount by the PERCENT (by the FORM of the LEVEL, of him who takes it, at that month), by 100, cut down.")
    static void wholeIsCutDown() {
        CommissionHouse h = fresh(0);
        h.sell(0, 100, 0);
        is(0, h.quote(1, 9, 1, 2));
        is(1, h.quote(1, 10, 1, 2));
        is(1, h.quote(1, 19, 1, 2));
        is(2, h.quote(1, 20, 1, 2));
        is(999, h.quote(1, 9999, 1, 2));
        is(1, h.sell(1, 1, 0));
        pays(h, 1, 1, 0, 10, 0, 0, 0, 0, 1);
        // the greatest there is
        h = crew(planned("level 1 wide 20;quota 0;cap 99;"), 0, 0, 0, 0, 0);
        quotes(h, 1, 9999, 1, 0, 100, 9899, 0, 100);
        // two on one level, by what each of them is
        h = crew(planned("level 1 wide 10;quota 0;opens 0 1;rank 1 9999 4;"), 0, 1, 0, 0);
        is(10, h.quote(2, 100, 1, 1));
        is(30, h.quote(3, 100, 1, 1));
    }

    @Holds(in = "Terms 3", says = "If his RANK OPENS as many LEVELS:")
    static void whatARankOpens() {
        String plan = "quota 0;level 1 flat 2;level 2 flat 2;level 3 flat 2;level 4 flat 2;level 5 flat 2;"
            + "rank 1 9999 0;rank 2 9999 0;rank 3 9999 0;";
        for (int opens = 0; opens <= 5; opens++) {
            CommissionHouse h = crew(planned(plan + "opens 0 " + opens + ";"), 0, 1, 2, 3, 4);
            is(5, h.quote(5, 100, 0, 0));
            for (int level = 1; level <= 5; level++) {
                is(level <= opens ? 2 : 0, h.quote(5, 100, level, 2));
                is(level <= opens ? 0 : 2, h.quote(5, 100, level, 3));
            }
        }
        // by the rank of him who takes it
        CommissionHouse h = crew(planned("quota 0;opens 0 0;opens 1 2;rank 1 150 0;rank 2 9999 4;rank 3 9999 4;"), 0, 1);
        h.sell(0, 50, 0);
        quotes(h, 2, 100, 1, 1, 10, 0, 10, 0, 0, 1);
        quotes(h, 2, 100, 2, 0, 5, 5, 0, 0, 1, 2);
        quotes(h, 2, 99, 2, 0, 5, 0, 4, 0, 0, 2);
    }

    @Holds(in = "Terms 3", says = "PAY is WHOLE, but no more than what is left of the amount by CAP, by 100, cut down, behind PAYS of LEVELS ahead;")
    static void whatTheCapLeaves() {
        String plan = "quota 0;opens 0 5;level 1 flat 10;level 2 flat 10;level 3 flat 10;"
            + "rank 1 9999 4;rank 2 9999 4;rank 3 9999 4;";
        int[][] want = {{0, 0, 0, 0}, {9, 9, 0, 0}, {10, 10, 0, 0}, {11, 10, 1, 0}, {15, 10, 5, 0}, {20, 10, 10, 0},
            {21, 10, 10, 1}, {30, 10, 10, 10}, {99, 10, 10, 10}};
        for (int[] row : want) {
            CommissionHouse h = crew(planned(plan + "cap " + row[0] + ";"), 0, 1, 2);
            for (int level = 1; level <= 3; level++) {
                is(row[level], h.quote(3, 100, level, 2));
            }
        }
        // 14.85, cut down: 14
        CommissionHouse h = crew(planned(plan + "cap 15;"), 0, 1, 2);
        quotes(h, 3, 99, 1, 2, 10, 9, 0, 0);
        quotes(h, 3, 99, 2, 1, 10, 5, 0, 4);
        quotes(h, 3, 99, 3, 0, 10, 0, 0, 9);
        // what is lost ahead leaves the cap alone
        h = crew(planned("cap 10;level 2 flat 10;opens 0 0;opens 1 2;rank 1 150 0;rank 2 9999 4;rank 3 9999 4;quota 0;"), 0, 1);
        h.sell(0, 50, 0);
        quotes(h, 2, 100, 1, 1, 10, 0, 10, 0, 0);
        quotes(h, 2, 100, 2, 0, 10, 10, 0, 0, 1);
    }

    @Holds(in = "Terms 3", says = "CUT is how much less;")
    static void cut() {
        String plan = "quota 0;opens 0 5;level 1 flat 20;level 2 flat 20;rank 1 9999 4;rank 2 9999 4;rank 3 9999 4;";
        int[][] want = {{0, 20, 20}, {19, 1, 20}, {20, 0, 20}, {21, 0, 19}, {39, 0, 1}, {40, 0, 0}};
        for (int[] row : want) {
            CommissionHouse h = crew(planned(plan + "cap " + row[0] + ";"), 0, 1);
            for (int level = 1; level <= 2; level++) {
                is(row[level], h.quote(2, 100, level, 4));
                is(0, h.quote(2, 100, level, 3));
            }
        }
    }

    @Holds(in = "Terms 3", says = "else PAY is 0, and WHOLE is LOST.")
    static void lost() {
        CommissionHouse h = crew(planned("quota 0;opens 0 0;cap 1;rank 1 9999 4;rank 2 9999 4;rank 3 9999 4;"), 0);
        is(0, h.sell(1, 100, 0));
        // all of it, though the cap would cut it
        pays(h, 0, 1, 0, 10, 0, 10, 0, 0, 1, 0, 0);
        is(1, h.sale(0, 6));
        is(0, h.sale(0, 7));
        is(10, h.books(7));
        is(0, h.books(8));
    }

    @Holds(in = "Terms 3", says = "Who took a LEVEL, and PAY, LOST, CUT, stay as they were from then on, whatever moves.")
    static void whatWasPaidStays() {
        CommissionHouse h = crew(planned("quota 10;cap 12;"), 0, 1, 2, 0);
        h.sell(0, 10, 0);
        h.sell(1, 900, 0);
        h.sell(2, 10, 0);
        is(3, h.sell(3, 100, 0));
        int[][] was = {{2, 10, 10, 0, 0, 0, 1}, {1, 5, 2, 0, 3, 1, 2}, {0, 0, 0, 0, 0, 1, 3}};
        for (int level = 1; level <= 3; level++) {
            pays(h, 3, level, was[level - 1]);
        }
        is(0, h.move(3, 4, 0));
        h.back(0, 100);
        h.back(1, 100);
        h.back(2, 100);
        h.back(3, 60);
        h.sell(4, 5000, 0);
        h.months(1);
        h.quit(2);
        h.quit(1);
        for (int level = 1; level <= 3; level++) {
            pays(h, 3, level, was[level - 1]);
        }
        is(3, h.sale(3, 6));
        is(12, h.sale(3, 7));
        // one that was lost stays lost, though the rank that it wants is there now
        h = fresh(0, 1);
        h.sell(0, 100, 0);
        h.sell(1, 100, 0);
        is(2, h.sell(2, 100, 0));
        pays(h, 2, 2, 0, 5, 0, 5, 0, 0, 2);
        h.sell(0, 5000, 0);
        is(1, h.tree(0, 0, 8));
        pays(h, 2, 2, 0, 5, 0, 5, 0, 0, 2);
    }

    // Terms 3: vesting.

    @Holds(in = "Terms 3", says = "A PAY VESTS from the month NOW was as its SALE was told:")
    static void vestsFromTheTelling() {
        CommissionHouse h = fresh(0);
        h.sell(0, 100, 0);
        h.months(2);
        is(1, h.sell(1, 900, 0));
        is(0, h.pay(1, 1, 8));
        h.months(1);
        is(30, h.pay(1, 1, 8));
    }

    @Holds(in = "Terms 3", says = "VESTED is its NET by the months since then (up to NOW,")
    static void vestedByTheMonths() {
        CommissionHouse h = paid(90);
        h.months(1);
        is(30, h.pay(1, 1, 8));
        h.back(1, 50);
        is(15, h.pay(1, 1, 8));
        h.months(1);
        is(30, h.pay(1, 1, 8));
        h.back(1, 50);
        is(0, h.pay(1, 1, 8));
    }

    @Holds(in = "Terms 3", says = "or to when he who has it QUIT;")
    static void vestedUpToTheQuit() {
        CommissionHouse h = fresh(0, 1);
        h.sell(1, 100, 0);
        h.sell(2, 900, 0);
        h.months(1);
        is(60, h.quit(1));
        is(30, h.pay(1, 1, 8));
        h.months(5);
        is(30, h.pay(1, 1, 8));
        // he who sold it may quit
        h = paid(90);
        h.quit(1);
        h.months(3);
        is(90, h.pay(1, 1, 8));
        // at the month of the telling, and at that at which all is vested
        h = fresh(0, 1);
        h.sell(1, 100, 0);
        h.sell(2, 900, 0);
        is(90, h.quit(1));
        h = fresh(0, 1);
        h.sell(1, 100, 0);
        h.sell(2, 900, 0);
        h.months(3);
        is(0, h.quit(1));
        is(90, h.pay(1, 1, 8));
    }

    @Holds(in = "Terms 3", says = "0 at least, VEST at most), by VEST, cut down;")
    static void vestedWithinBounds() {
        CommissionHouse h = paid(100);
        int[] vested = {0, 33, 66, 100, 100, 100};
        for (int month = 0; month <= 5; month++) {
            is(vested[month], h.pay(1, 1, 8));
            h.months(1);
        }
        // he quit ahead of the month in which the sale was told
        h = fresh(0, 1);
        h.sell(1, 100, 0);
        h.months(1);
        h.quit(1);
        h.months(1);
        is(1, h.sell(2, 900, 0));
        is(1, h.pay(1, 1, 0));
        is(90, h.pay(1, 1, 2));
        is(0, h.pay(1, 1, 8));
        h.months(4);
        is(0, h.pay(1, 1, 8));
        is(0, h.seller(1, 3));
        is(90, h.seller(1, 7));
        h = crew(planned("vest 12;quota 0;"), 0);
        h.sell(1, 190, 0);
        pass(h, 11);
        is(17, h.pay(0, 1, 8));
        h.months(1);
        is(19, h.pay(0, 1, 8));
        h = crew(planned("vest 1;quota 0;"), 0);
        h.sell(1, 190, 0);
        is(0, h.pay(0, 1, 8));
        h.months(1);
        is(19, h.pay(0, 1, 8));
    }

    @Holds(in = "Terms 3", says = "all of its NET, if VEST is 0.")
    static void allIsVestedAtOnce() {
        CommissionHouse h = crew(planned("vest 0;quota 0;"), 0, 1);
        h.sell(1, 190, 0);
        is(19, h.pay(0, 1, 8));
        h.back(0, 50);
        is(9, h.pay(0, 1, 8));
        is(0, h.seller(0, 6));
        // even to one who had quit as it was told
        h.months(1);
        is(0, h.quit(1));
        h.months(1);
        is(1, h.sell(2, 190, 0));
        is(19, h.pay(1, 1, 8));
        is(19, h.seller(1, 5));
        is(0, h.seller(1, 7));
    }

    @Holds(in = "Terms 3", says = "What is not VESTED of one who has QUIT is FORFEITED, else it is UNVESTED.")
    static void forfeitedOrUnvested() {
        CommissionHouse h = fresh(0, 1);
        h.sell(1, 100, 0);
        h.sell(2, 1000, 0);
        h.months(1);
        is(67, h.seller(1, 6));
        is(0, h.seller(1, 7));
        is(67, h.books(10));
        is(0, h.books(11));
        h.quit(1);
        is(0, h.seller(1, 6));
        is(67, h.seller(1, 7));
        is(0, h.books(10));
        is(67, h.books(11));
        // a sale that comes back takes of it
        h.back(1, 50);
        is(34, h.seller(1, 7));
        h.back(1, 50);
        is(0, h.seller(1, 7));
    }

    @Holds(in = "Terms 3", says = "EARNED: what is VESTED of all PAYS to him;")
    static void earned() {
        CommissionHouse h = fresh(0, 0);
        h.sell(0, 100, 0);
        h.sell(1, 100, 0);
        h.sell(2, 100, 0);
        is(0, h.seller(0, 3));
        h.months(1);
        // 3 and 3 of 10 and 10, each cut down by itself
        is(6, h.seller(0, 3));
        is(0, h.seller(1, 3));
        h.months(1);
        is(12, h.seller(0, 3));
        // the first of forty sales and the last
        h = crew(planned("vest 0;quota 0;"), 0);
        for (int n = 0; n < 40; n++) {
            is(n, h.sell(n % 39 == 0 ? 1 : 0, 100, 0));
        }
        is(20, h.seller(0, 3));
    }

    @Holds(in = "Terms 3", says = "BALANCE: EARNED less what he has DRAWN in all (below 0: a DEBT).")
    static void balances() {
        CommissionHouse h = paid(90);
        h.months(1);
        is(30, h.seller(0, 5));
        is(10, h.draw(0, 20));
        is(0, h.draw(0, 10));
        is(0, h.seller(0, 5));
        is(0, h.books(14));
        is(0, h.books(13));
        h.back(1, 1);
        // of a net of 89: 29
        is(-1, h.seller(0, 5));
        is(1, h.books(14));
        is(1, h.books(13));
        is(30, h.seller(0, 4));
    }

    // Terms 3: journals.

    @Holds(in = "Terms 3", says = "JOURNAL of a SELLER, the latest 16, the latest first:")
    static void theLatestSixteen() {
        CommissionHouse h = crew(planned("vest 0;quota 0;"), 0);
        for (int n = 1; n <= 16; n++) {
            h.sell(1, 10 * n, 0);
            is(n, h.journal(0, NONE, 0));
        }
        line(h, 0, 0, 0, 0, 16, 15);
        line(h, 0, 15, 0, 0, 1, 0);
        h.sell(1, 170, 0);
        is(16, h.journal(0, NONE, 0));
        line(h, 0, 0, 0, 0, 17, 16);
        line(h, 0, 15, 0, 0, 2, 1);
        line(h, 0, 16, -2, -2, -2, -2);
        // twice around
        for (int n = 18; n <= 36; n++) {
            h.sell(1, 10 * n, 0);
        }
        is(16, h.journal(0, NONE, 0));
        for (int k = 0; k < 16; k++) {
            line(h, 0, k, 0, 0, 36 - k, 35 - k);
        }
    }

    @Holds(in = "Terms 3", says = "0 PAYS to him above 0, each, as they were;")
    static void linesOfPays() {
        CommissionHouse h = fresh(0);
        h.sell(0, 100, 0);
        h.sell(1, 9, 0);
        is(1, h.sale(1, 6));
        is(0, h.journal(0, NONE, 0));
        h.sell(1, 10, 0);
        h.sell(1, 500, 0);
        is(2, h.journal(0, NONE, 0));
        h.back(3, 100);
        line(h, 0, 1, 0, 0, 50, 3);
        line(h, 0, 2, 0, 0, 1, 2);
        is(0, h.journal(1, NONE, 0));
        // what is lost is no pay
        h = crew(planned("opens 0 0;quota 0;"), 0);
        h.sell(1, 500, 0);
        is(0, h.journal(0, NONE, 0));
    }

    @Holds(in = "Terms 3", says = "1 what a SALE that came back took of NET of PAYS to him, each above 0, LEVELS rising;")
    static void linesOfWhatCameBack() {
        CommissionHouse h = crew(planned("quota 0;opens 0 5;"), 0, 1);
        h.sell(2, 40, 0);
        line(h, 1, 0, 0, 0, 4, 0);
        line(h, 0, 0, 0, 0, 2, 0);
        // of 4 and 2: 3 and 1, then 3 and 1 again, then 2 and 1, then 0 and 0
        is(2, h.back(0, 1));
        line(h, 1, 0, 1, 0, 1, 0);
        line(h, 0, 0, 1, 0, 1, 0);
        is(0, h.back(0, 1));
        is(2, h.journal(1, NONE, 0));
        is(1, h.back(0, 48));
        is(3, h.journal(1, NONE, 0));
        is(2, h.journal(0, NONE, 0));
        is(3, h.back(0, 50));
        line(h, 1, 0, 1, 0, 2, 0);
        line(h, 0, 0, 1, 0, 1, 0);
        is(0, h.journal(2, NONE, 0));
        // a pay of 0 loses nothing
        h.sell(2, 9, 0);
        h.back(1, 100);
        is(4, h.journal(1, NONE, 0));
    }

    @Holds(in = "Terms 3", says = "2 what was DRAWN;")
    static void linesOfDraws() {
        CommissionHouse h = paid(90);
        h.months(2);
        h.draw(0, 1);
        h.draw(0, 59);
        h.draw(0, 1);
        is(3, h.journal(0, NONE, 0));
        line(h, 0, 0, 2, 2, 59, NONE);
        line(h, 0, 1, 2, 2, 1, NONE);
    }

    @Holds(in = "Terms 3", says = "3 that he QUIT: what was FORFEITED by it (0, too).")
    static void linesOfQuits() {
        CommissionHouse h = fresh(0, 1);
        h.sell(1, 100, 0);
        h.sell(2, 1000, 0);
        h.months(1);
        h.quit(1);
        h.quit(2);
        line(h, 1, 0, 3, 1, 67, NONE);
        line(h, 2, 0, 3, 1, 0, NONE);
        is(1, h.journal(2, NONE, 0));
        // it stays as it was
        h.back(1, 100);
        line(h, 1, 1, 3, 1, 67, NONE);
    }

    @Holds(in = "Terms 3", says = "Each with what NOW was.")
    static void linesHaveTheirMonths() {
        CommissionHouse h = fresh(0, 1);
        h.sell(1, 100, 0);
        h.months(2);
        h.sell(2, 900, 0);
        h.months(1);
        h.draw(1, 30);
        h.months(1);
        h.back(1, 10);
        h.months(1);
        h.quit(1);
        int[] months = {5, 4, 3, 2};
        int[] kinds = {3, 1, 2, 0};
        for (int k = 0; k < 4; k++) {
            is(kinds[k], h.journal(1, k, 0));
            is(months[k], h.journal(1, k, 1));
        }
    }

    // Promise 10.

    @Holds(in = "Promise 10", says = "A SALE is told, from 0 on: its number.")
    static void salesAreNumbered() {
        CommissionHouse h = fresh(0);
        is(0, h.sell(0, 1, 0));
        is(NONE, h.sell(0, 0, 0));
        is(1, h.sell(1, 9999, 0));
        is(2, h.sell(0, 1, 0));
        is(3, h.books(2));
    }

    @Holds(in = "Promise 10", says = "NONE: there is no such SELLER,")
    static void sellOfNobody() {
        refused(NONE, h -> h.sell(-1, 10, 1), h -> h.sell(5, 10, 1), h -> h.sell(10, 10, 1), h -> h.sell(MIN, 10, 1),
            h -> h.sell(MAX, 10, 1), h -> h.sell(256, 10, 1));
    }

    @Holds(in = "Promise 10", says = "he has QUIT,")
    static void sellOfOneWhoQuit() {
        // of the month at which he quit, and of one ahead of it
        refused(NONE, h -> h.sell(4, 10, 1), h -> h.sell(4, 10, 0));
    }

    @Holds(in = "Promise 10", says = "another amount than 1 .. 9999,")
    static void sellOfAnotherAmount() {
        refused(NONE, h -> h.sell(0, 0, 1), h -> h.sell(0, -1, 1), h -> h.sell(0, 10000, 1), h -> h.sell(0, MIN, 1),
            h -> h.sell(0, MAX, 1), h -> h.sell(0, 65536 + 5, 1));
        CommissionHouse h = new CommissionHouse();
        is(0, h.sell(0, 1, 0));
        is(1, h.sell(0, 9999, 0));
        is(10000, h.tree(0, 0, 4));
    }

    @Holds(in = "Promise 10", says = "another month than NOW less 2 to NOW,")
    static void sellOfAnotherMonth() {
        refused(NONE, h -> h.sell(0, 10, 2), h -> h.sell(0, 10, -1), h -> h.sell(0, 10, MIN), h -> h.sell(0, 10, MAX),
            h -> h.sell(0, 10, MIN + 1));
        CommissionHouse h = pass(new CommissionHouse(), 3);
        is(NONE, h.sell(0, 10, 0));
        is(NONE, h.sell(0, 10, 4));
        is(0, h.sell(0, 10, 1));
        is(1, h.sell(0, 20, 2));
        is(2, h.sell(0, 30, 3));
        for (int month = 1; month <= 3; month++) {
            is(10 * month, h.tree(0, month, 4));
        }
        pass(h, 96);
        is(NONE, h.sell(0, 10, 96));
        is(3, h.sell(0, 10, 97));
        is(4, h.sell(0, 10, 99));
        is(NONE, h.sell(0, 10, 100));
    }

    @Holds(in = "Promise 10", says = "or one ahead of that at which he JOINED,")
    static void sellAheadOfHisJoining() {
        CommissionHouse h = crew(pass(new CommissionHouse(), 3), 0);
        is(NONE, h.sell(1, 10, 2));
        is(NONE, h.sell(1, 10, 1));
        is(0, h.sell(1, 10, 3));
        h.months(1);
        is(NONE, h.sell(1, 10, 2));
        is(1, h.sell(1, 10, 3));
        is(2, h.sell(0, 10, 2));
    }

    @Holds(in = "Promise 10", says = "or there are 40 SALES.")
    static void sellAFortyFirst() {
        CommissionHouse h = fortySales();
        is(NONE, h.sell(0, 1, 0));
        is(NONE, h.sell(1, 1, 0));
        is(40, h.books(2));
        is(1180, h.books(3));
        is(1180, h.tree(0, 0, 4));
        is(0, h.seller(1, 10));
        is(0, h.journal(0, NONE, 0));
        // one that has come back makes no room
        h.back(39, 100);
        is(NONE, h.sell(0, 1, 0));
        is(40, h.books(2));
        is(49, h.sale(39, 1));
    }

    // Promises 11 and 12.

    @Holds(in = "Promise 11", says = "So many of a hundred more of a SALE come back: what is taken of NET of all its PAYS by it.")
    static void backTakes() {
        CommissionHouse h = crew(planned("quota 0;opens 0 5;"), 0, 1);
        h.sell(2, 1000, 0);
        h.sell(0, 1000, 0);
        is(150, h.sale(0, 7));
        is(2, h.back(0, 1));
        is(148, h.sale(0, 8));
        is(148, h.back(0, 99));
        is(0, h.sale(0, 8));
        is(150, h.sale(0, 7));
        // one that paid nobody, and all at once
        is(0, h.back(1, 100));
        is(100, h.sale(1, 4));
        // what is lost, and what is vested or drawn, changes nothing of it
        h = paid(100);
        h.months(3);
        h.draw(0, 100);
        is(100, h.back(1, 100));
        is(-100, h.seller(0, 5));
    }

    @Holds(in = "Promise 11", says = "NONE: there is none such,")
    static void backOfNone() {
        refused(NONE, h -> h.back(-1, 1), h -> h.back(4, 1), h -> h.back(40, 1), h -> h.back(MIN, 1), h -> h.back(MAX, 1));
        is(NONE, new CommissionHouse().back(0, 1));
    }

    @Holds(in = "Promise 11", says = "another number than 1 .. 100,")
    static void backOfAnotherNumber() {
        refused(NONE, h -> h.back(0, 0), h -> h.back(0, -1), h -> h.back(0, 101), h -> h.back(0, MIN), h -> h.back(0, MAX),
            h -> h.back(0, 257), h -> h.back(2, -25));
        CommissionHouse h = fresh(0);
        h.sell(0, 100, 0);
        h.sell(0, 100, 0);
        is(0, h.back(0, 1));
        is(99, h.sale(0, 5));
        is(0, h.back(1, 100));
        is(0, h.sale(1, 5));
    }

    @Holds(in = "Promise 11", says = "or more than 100 would have come back.")
    static void backOfMoreThanAll() {
        refused(NONE, h -> h.back(2, 76), h -> h.back(2, 100), h -> h.back(2, MAX));
        CommissionHouse h = busy();
        is(false, h.back(2, 75) == NONE);
        is(100, h.sale(2, 4));
        is(NONE, h.back(2, 1));
    }

    @Holds(in = "Promise 12", says = "So much is DRAWN by a SELLER: his BALANCE then.")
    static void draws() {
        CommissionHouse h = paid(90);
        h.months(1);
        is(29, h.draw(0, 1));
        is(1, h.seller(0, 4));
        is(0, h.draw(0, 29));
        is(30, h.seller(0, 4));
        h.months(1);
        is(0, h.draw(0, 30));
        is(60, h.books(12));
        // one who has quit may draw what is vested
        h = fresh(0, 1);
        h.sell(1, 100, 0);
        h.sell(2, 900, 0);
        h.months(1);
        h.quit(1);
        is(NONE, h.draw(1, 31));
        is(0, h.draw(1, 30));
    }

    @Holds(in = "Promise 12", says = "NONE: there is none such, much is below 1, or above his BALANCE.")
    static void drawRefused() {
        refused(NONE, h -> h.draw(-1, 1), h -> h.draw(5, 1), h -> h.draw(MIN, 1), h -> h.draw(MAX, 1));
        refused(NONE, h -> h.draw(0, 0), h -> h.draw(0, -1), h -> h.draw(0, MIN));
        CommissionHouse h = paid(90);
        is(NONE, h.draw(0, 1));
        h.months(1);
        is(NONE, h.draw(0, 31));
        is(NONE, h.draw(0, MAX));
        is(NONE, h.draw(1, 1));
        is(0, h.seller(0, 4));
        is(0, h.draw(0, 30));
        is(NONE, h.draw(0, 1));
        h.back(1, 100);
        is(-30, h.seller(0, 5));
        is(NONE, h.draw(0, 1));
        is(NONE, h.draw(0, -31));
        is(1, h.journal(0, 0, 0));
    }

    // Promise 14.

    @Holds(in = "Promise 14", says = "Of a SELLER, what 0: when he JOINED,")
    static void sellerJoined() {
        CommissionHouse h = crew(pass(new CommissionHouse(), 99), 0);
        is(0, h.seller(0, 0));
        is(99, h.seller(1, 0));
    }

    @Holds(in = "Promise 14", says = "1: when he QUIT (NONE),")
    static void sellerQuit() {
        CommissionHouse h = fresh(0, 0);
        is(NONE, h.seller(1, 1));
        h.quit(1);
        is(0, h.seller(1, 1));
        h.months(4);
        h.quit(2);
        is(4, h.seller(2, 1));
        is(0, h.seller(1, 1));
        is(NONE, h.seller(0, 1));
    }

    @Holds(in = "Promise 14", says = "2: MOVES, 3: EARNED, 4: DRAWN, 5: BALANCE, 6: UNVESTED, 7: FORFEITED,")
    static void sellerNumbers() {
        CommissionHouse h = fresh(0, 1);
        h.sell(1, 100, 0);
        h.sell(2, 900, 0);
        h.months(1);
        h.draw(1, 12);
        is(4, h.move(1, 0, 1));
        is(0, h.move(2, 0, 1));
        int[] one = {0, 30, 12, 18, 60, 0};
        int[] two = {1, 0, 0, 0, 0, 0};
        int[] quit = {0, 30, 12, 18, 0, 60};
        for (int what = 2; what <= 7; what++) {
            is(one[what - 2], h.seller(1, what));
            is(two[what - 2], h.seller(2, what));
        }
        h.quit(1);
        h.months(2);
        for (int what = 2; what <= 7; what++) {
            is(quit[what - 2], h.seller(1, what));
        }
        h.back(1, 100);
        is(-12, h.seller(1, 5));
    }

    @Holds(in = "Promise 14", says = "8: the greatest RANK of any month from when he JOINED to NOW (all as it is known now), 9: the first month of it,")
    static void sellerGreatestRank() {
        String plan = "rank 1 10 0;rank 2 20 0;rank 3 30 0;window 1;";
        CommissionHouse h = planned(plan);
        is(0, h.seller(0, 8));
        is(0, h.seller(0, 9));
        h.months(1);
        h.sell(0, 20, 1);
        h.months(1);
        h.sell(0, 10, 2);
        h.months(1);
        h.sell(0, 20, 3);
        is(2, h.seller(0, 8));
        is(1, h.seller(0, 9));
        h.sell(0, 10, 3);
        is(3, h.seller(0, 8));
        is(3, h.seller(0, 9));
        // as it is known now: a late sale, and one that comes back
        h.sell(0, 20, 2);
        is(2, h.seller(0, 9));
        h.back(4, 5);
        is(3, h.seller(0, 9));
        h.back(2, 5);
        is(2, h.seller(0, 8));
        is(1, h.seller(0, 9));
        // of a month at which he had not joined nothing counts, of one with no rank the first
        h = pass(planned("rank 1 0 0;rank 2 10 0;"), 4);
        crew(h, 0);
        is(1, h.seller(1, 8));
        is(4, h.seller(1, 9));
        h = crew(pass(new CommissionHouse(), 4), 0);
        is(0, h.seller(1, 8));
        is(4, h.seller(1, 9));
        // the last month there is
        h = pass(planned(plan), 99);
        h.sell(0, 30, 99);
        is(3, h.seller(0, 8));
        is(99, h.seller(0, 9));
    }

    @Holds(in = "Promise 14", says = "10: SALES, 11: EXPOSED.")
    static void sellerSales() {
        CommissionHouse h = paid(90);
        is(1, h.seller(1, 10));
        is(0, h.seller(1, 11));
        h.months(1);
        is(30, h.seller(1, 11));
        is(0, h.seller(0, 11));
        is(40, fortySales().seller(0, 10));
        is(0, fortySales().seller(1, 10));
        // one that has come back is a sale still
        h.back(1, 100);
        is(1, h.seller(1, 10));
        is(0, h.seller(1, 11));
    }

    @Holds(in = "Promise 14", says = "-1000000: there is none such, or for another what.")
    static void sellerRefused() {
        CommissionHouse h = busy();
        for (int what = 0; what < 12; what++) {
            for (int none : new int[] {-1, 5, 10, 256, MIN, MAX}) {
                is(NO_SELLER, h.seller(none, what));
            }
        }
        for (int what : new int[] {-1, 12, 256, MIN, MAX}) {
            is(NO_SELLER, h.seller(0, what));
        }
    }

    // Promises 19 and 20.

    @Holds(in = "Promise 19", says = "Of a SALE, what 0: the SELLER, 1: the amount, 2: the month, 3: the month in which it was told, 4: BACK, 5: NET of the amount,")
    static void saleFacts() {
        CommissionHouse h = pass(fresh(0), 2);
        h.sell(1, 999, 0);
        h.months(1);
        h.back(0, 10);
        int[] facts = {1, 999, 0, 2, 10, 899};
        for (int what = 0; what <= 5; what++) {
            is(facts[what], h.sale(0, what));
        }
    }

    @Holds(in = "Promise 19", says = "6: how many LEVELS are taken, 7: PAYS together, 8: NET of each PAY, together,")
    static void salePays() {
        CommissionHouse h = crew(planned("quota 0;opens 0 2;level 3 flat 9;"), 0, 1, 2);
        h.sell(0, 50, 0);
        h.sell(3, 90, 0);
        is(0, h.sale(0, 6));
        is(0, h.sale(0, 7));
        is(0, h.sale(0, 8));
        is(3, h.sale(1, 6));
        is(13, h.sale(1, 7));
        is(13, h.sale(1, 8));
        h.back(1, 50);
        // of 9 and 4: 4 and 2
        is(3, h.sale(1, 6));
        is(13, h.sale(1, 7));
        is(6, h.sale(1, 8));
        h.back(1, 1);
        // 4 and 1, not 6 of 13
        is(5, h.sale(1, 8));
    }

    @Holds(in = "Promise 19", says = "9: 1 if it is STALE, else 0, 10: SPILL.")
    static void saleStaleAndSpill() {
        CommissionHouse h = paid(90);
        is(0, h.sale(1, 9));
        is(0, h.sale(1, 10));
        h.months(1);
        is(1, h.sale(1, 9));
        is(0, h.sale(0, 9));
        is(0, h.sale(1, 10));
        h.draw(0, 1);
        is(1, h.sale(1, 10));
        is(0, h.sale(0, 10));
    }

    @Holds(in = "Promise 19", says = "-2: there is none such, or for another what.")
    static void saleRefused() {
        CommissionHouse h = busy();
        for (int what = 0; what <= 10; what++) {
            for (int none : new int[] {-1, 4, 40, 256, MIN, MAX}) {
                is(-2, h.sale(none, what));
            }
        }
        for (int what : new int[] {-1, 11, 256, MIN, MAX}) {
            is(-2, h.sale(0, what));
        }
        is(-2, new CommissionHouse().sale(0, 0));
        is(49, fortySales().sale(39, 1));
        is(-2, fortySales().sale(40, 1));
    }

    @Holds(in = "Promise 20", says = "Of a LEVEL of a SALE, what 0: who took it, 1: the PERCENT, 2: PAY, 3: LOST, 4: CUT, 5: his RANK then,")
    static void payFacts() {
        CommissionHouse h = crew(planned("quota 10;cap 12;level 3 flat 4;opens 1 2;rank 1 200 1;"), 0, 1, 2);
        h.sell(0, 10, 0);
        h.sell(1, 10, 0);
        h.sell(2, 10, 0);
        h.sell(3, 180, 0);
        // 21 are to be paid
        pays(h, 3, 1, 2, 10, 18, 0, 0, 0);
        pays(h, 3, 2, 1, 5, 3, 0, 6, 1);
        pays(h, 3, 3, 0, 4, 0, 7, 0, 1);
    }

    @Holds(in = "Promise 20", says = "6: the how manieth of the UPLINE he was then (1: the SPONSOR),")
    static void payStep() {
        CommissionHouse h = fresh(0, 1, 2, 3, 4, 5, 6, 7, 8);
        h.sell(0, 100, 0);
        h.sell(1, 100, 0);
        is(1, h.pay(1, 1, 6));
        h.sell(9, 100, 0);
        is(8, h.pay(2, 1, 6));
        is(9, h.pay(2, 2, 6));
        h.move(9, 0, 0);
        is(9, h.pay(2, 2, 6));
    }

    @Holds(in = "Promise 20", says = "7: NET of PAY, 8: VESTED.")
    static void payNetAndVested() {
        CommissionHouse h = paid(90);
        is(90, h.pay(1, 1, 7));
        is(0, h.pay(1, 1, 8));
        h.months(1);
        h.back(1, 1);
        is(89, h.pay(1, 1, 7));
        is(29, h.pay(1, 1, 8));
    }

    @Holds(in = "Promise 20", says = "-2: nobody took it, there is none such (of either), or for another what.")
    static void payRefused() {
        CommissionHouse h = busy();
        is(2, h.sale(2, 6));
        for (int what = 0; what <= 8; what++) {
            is(-2, h.pay(2, 3, what));
            is(-2, h.pay(0, 1, what));
            for (int none : new int[] {-1, 0, 6, 256, MIN, MAX}) {
                is(-2, h.pay(2, none, what));
            }
            for (int none : new int[] {-1, 4, 40, MIN, MAX}) {
                is(-2, h.pay(none, 1, what));
            }
        }
        for (int what : new int[] {-1, 9, 256, MIN, MAX}) {
            is(-2, h.pay(2, 1, what));
        }
    }

    // Promise 28.

    @Holds(in = "Promise 28", says = "How many are in a SELLER's JOURNAL (k NONE, what 0);")
    static void journalSize() {
        CommissionHouse h = paid(90);
        is(1, h.journal(0, NONE, 0));
        is(0, h.journal(1, NONE, 0));
        for (int what : new int[] {-1, 1, 2, 3, 4, MIN, MAX}) {
            is(-2, h.journal(0, NONE, what));
        }
    }

    @Holds(in = "Promise 28", says = "of the k-th, the latest first, what 0: which, 1: the month, 2: how much, 3: the SALE (NONE of 2, 3).")
    static void journalLines() {
        CommissionHouse h = fresh(0, 1);
        h.sell(1, 100, 0);
        h.sell(2, 900, 0);
        h.months(1);
        h.draw(1, 7);
        h.back(1, 10);
        h.months(1);
        h.quit(1);
        is(4, h.journal(1, NONE, 0));
        line(h, 1, 0, 3, 2, 27, NONE);
        line(h, 1, 1, 1, 1, 9, 1);
        line(h, 1, 2, 2, 1, 7, NONE);
        line(h, 1, 3, 0, 0, 90, 1);
    }

    @Holds(in = "Promise 28", says = "-2: not so many, there is none such, or for another what.")
    static void journalRefused() {
        CommissionHouse h = paid(90);
        for (int what = 0; what < 4; what++) {
            is(-2, h.journal(0, 1, what));
            is(-2, h.journal(1, 0, what));
            for (int k : new int[] {-2, 16, 256, MIN, MAX}) {
                is(-2, h.journal(0, k, what));
            }
            for (int none : new int[] {-1, 2, 10, MIN, MAX}) {
                is(-2, h.journal(none, 0, what));
                is(-2, h.journal(none, NONE, what));
            }
        }
        for (int what : new int[] {-1, 4, 256, MIN, MAX}) {
            is(-2, h.journal(0, 0, what));
        }
    }

    // Promise 29.

    @Holds(in = "Promise 29", says = "What 0: NOW, 1: SELLERS, 2: SALES, 3: amounts of these together, 4: NET of each,")
    static void booksOfSales() {
        CommissionHouse h = fresh(0);
        h.sell(0, 9, 0);
        h.sell(1, 9, 0);
        h.months(1);
        h.back(0, 50);
        h.back(1, 50);
        int[] books = {1, 2, 2, 18, 8};
        for (int what = 0; what <= 4; what++) {
            is(books[what], h.books(what));
        }
        h = new CommissionHouse();
        for (int n = 0; n < 40; n++) {
            h.sell(0, 9999, 0);
        }
        is(40, h.books(2));
        is(399960, h.books(3));
        is(399960, h.books(4));
    }

    @Holds(in = "Promise 29", says = "5: PAYS together, 6: NET of each, 7: LOST, 8: CUT, 9: VESTED, 10: UNVESTED, 11: FORFEITED, 12: DRAWN,")
    static void booksOfPays() {
        CommissionHouse h = crew(planned("quota 10;cap 12;level 3 flat 4;opens 1 2;rank 1 200 1;"), 0, 1, 2);
        h.sell(0, 10, 0);
        h.sell(1, 10, 0);
        h.sell(2, 10, 0);
        h.sell(3, 180, 0);
        // pays: 1 to 0; 1 to 1 (and 0 of level 2); 18, 3 and a lost 7, 6 are cut
        h.months(1);
        h.draw(2, 5);
        is(12, h.quit(2));
        h.back(3, 50);
        // nets: 1, 1, 9, 1; vested: 0, 0, 3, 0
        int[] books = {23, 12, 7, 6, 3, 3, 6, 5};
        for (int what = 5; what <= 12; what++) {
            is(books[what - 5], h.books(what));
        }
        // the first and the last of ten sellers, the first sale and the last
        h = tenSellers();
        h.sell(1, 100, 0);
        h.sell(2, 50, 0);
        h.months(1);
        h.draw(0, 1);
        h.draw(9, 3);
        is(4, h.quit(9));
        // 9 has 8 of 10, 8 loses 9, 0 has 4 of 5
        int[] more = {12, 12, 9, 3, 6, 2, 4, 4};
        for (int what = 5; what <= 12; what++) {
            is(more[what - 5], h.books(what));
        }
    }

    @Holds(in = "Promise 29", says = "13: DEBTS together (0 at least), 14: how many SELLERS have a DEBT,")
    static void booksOfDebts() {
        CommissionHouse h = crew(planned("vest 0;quota 0;opens 0 5;"), 0, 1);
        h.sell(2, 100, 0);
        h.sell(1, 100, 0);
        is(0, h.books(13));
        is(0, h.books(14));
        h.draw(1, 8);
        h.draw(0, 15);
        is(0, h.books(13));
        is(0, h.books(14));
        h.back(0, 100);
        // 1 owes 8, 0 has 10 and has drawn 15; what others have left does not count against it
        is(13, h.books(13));
        is(2, h.books(14));
        h.sell(2, 60, 0);
        is(4, h.books(13));
        is(2, h.books(14));
        h.sell(2, 40, 0);
        is(0, h.books(13));
        is(0, h.books(14));
        // the first and the last of ten
        h = tenSellers();
        h.sell(1, 100, 0);
        h.sell(2, 50, 0);
        h.months(2);
        h.draw(0, 1);
        h.draw(9, 3);
        is(1, h.sale(0, 10));
        is(1, h.sale(1, 10));
        h.back(0, 100);
        h.back(1, 100);
        is(4, h.books(13));
        is(2, h.books(14));
    }

    @Holds(in = "Promise 29", says = "15: SELLERS (bits) who have QUIT, 16: those who are ACTIVE NOW (bits), 17: STALE SALES,")
    static void booksOfBits() {
        CommissionHouse h = fresh(0, 1, 0);
        is(0, h.books(15));
        is(0, h.books(16));
        h.sell(0, 100, 0);
        h.sell(3, 100, 0);
        h.sell(1, 99, 0);
        is(0b1001, h.books(16));
        is(0, h.books(17));
        h.quit(3);
        h.quit(2);
        is(0b1100, h.books(15));
        is(0b0001, h.books(16));
        h.months(1);
        is(0, h.books(16));
        is(2, h.books(17));
        // the house of NOW is asked of, whatever was asked of ahead of it
        is(100, h.tree(0, 0, 4));
        is(2, h.books(17));
        is(1, h.tree(0, 0, 7));
        is(0, h.books(16));
        h.sell(0, 100, 1);
        is(0b0001, h.books(16));
        is(0, h.books(17));
        h = crew(planned("quota 0;"), 0, 0);
        h.sell(1, 100, 0);
        is(0, h.move(1, 2, 0));
        is(1, h.books(17));
        h = fresh(0, 0, 0, 0, 0, 0, 0, 0, 0);
        for (int seller = 1; seller <= 9; seller++) {
            h.quit(seller);
        }
        is(0b1111111110, h.books(15));
    }

    @Holds(in = "Promise 29", says = "18: the greatest RANK of any NOW, 19: who has it, of several the least.")
    static void booksOfRanks() {
        CommissionHouse h = crew(planned("rank 1 10 1;rank 2 20 0;rank 3 30 1;quota 5;"), 0, 0, 2);
        is(0, h.books(18));
        is(0, h.books(19));
        h.sell(3, 10, 0);
        // 2 has rank 1 by its leg, 0 has none
        is(1, h.books(18));
        is(2, h.books(19));
        h.sell(3, 10, 0);
        is(2, h.books(18));
        is(0, h.books(19));
        h.sell(3, 10, 0);
        is(3, h.books(18));
        is(2, h.books(19));
        CommissionHouse one = crew(planned("rank 1 10 1;rank 2 20 2;rank 3 9999 4;quota 5;"), 0, 1, 1);
        one.sell(2, 10, 0);
        one.sell(3, 10, 0);
        is(2, one.books(18));
        is(1, one.books(19));
        // one who has quit has it still
        one.quit(1);
        is(2, one.books(18));
        is(1, one.books(19));
        h.sell(2, 5, 0);
        is(3, h.books(18));
        is(0, h.books(19));
        h.months(2);
        is(0, h.books(18));
        is(0, h.books(19));
    }

    @Holds(in = "Promise 29", says = "2: SALES,")
    static void booksOfFortySales() {
        CommissionHouse h = crew(planned("quota 0;vest 0;"), 0);
        for (int n = 0; n < 40; n++) {
            is(n, h.sell(1, 100, 0));
        }
        h.draw(0, 399);
        int[] books = {0, 2, 40, 4000, 4000, 400, 400, 0, 0, 400, 0, 0, 399, 0, 0, 0, 0b11, 0, 1, 0};
        for (int what = 0; what < 20; what++) {
            is(books[what], h.books(what));
        }
        is(1, h.sale(0, 10));
        is(1, h.sale(39, 10));
        is(0, h.sale(39, 9));
        is(400, h.seller(1, 11));
    }

    @Holds(in = "Promise 29", says = "-2: for another what.")
    static void booksRefused() {
        CommissionHouse h = busy();
        for (int what : new int[] {-1, 20, 256, MIN, MAX}) {
            is(-2, h.books(what));
        }
    }
}
