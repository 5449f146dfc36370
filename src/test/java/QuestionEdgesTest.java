/** Boundary cases of Terms 4, of the constants, and of promises 21 to 27, 30 and 31: what would be, and images. */
public final class QuestionEdgesTest extends Edges {
    private QuestionEdgesTest() {
    }

    public static void main(String[] args) throws ReflectiveOperationException {
        run(QuestionEdgesTest.class, "edges of questions");
    }

    private static CommissionHouse chain() {
        CommissionHouse h = fresh(0, 1, 2);
        h.sell(0, 100, 0);
        h.sell(1, 100, 0);
        h.sell(2, 100, 0);
        return h;
    }

    /** Seller 1 has a pay of 90, by 3 months, of sale 1 of seller 2, told at month 0. */
    private static CommissionHouse ninety() {
        CommissionHouse h = fresh(0, 1);
        h.sell(1, 100, 0);
        is(1, h.sell(2, 900, 0));
        is(90, h.pay(1, 1, 2));
        return h;
    }

    private static void repays(CommissionHouse h, int sale, int level, int... facts) {
        for (int what = 0; what < facts.length; what++) {
            is(facts[what], h.repaid(sale, level, what));
        }
    }

    @Holds(in = "Constants", says = "The constants: `NONE = -1`: There is none.")
    static void none() {
        is(-1, CommissionHouse.NONE);
    }

    // Terms 4.

    @Holds(in = "Terms 4", says = "QUOTE: what a SALE told NOW, of this month, would pay.")
    static void quoteIsWhatItWouldPay() {
        for (int amount : new int[] {1, 9, 10, 99, 100, 499, 500, 1000, 9999}) {
            CommissionHouse h = crew(planned("level 1 sum ranked 3 wide 4;level 3 loyal 1 9;cap 20;rank 1 500 1;rank 2 700 1;"
                + "rank 3 9000 1;quota 100;"), 0, 1, 2, 2);
            h.months(1);
            for (int seller = 0; seller < 3; seller++) {
                h.sell(seller, 100, 1);
            }
            int[] told = new int[40];
            for (int i = 0; i < told.length; i++) {
                told[i] = h.quote(3, amount, i / 8, i % 8);
            }
            int sale = h.sell(3, amount, 1);
            for (int i = 8; i < told.length; i++) {
                is(i % 8 == 7 ? -2 : h.pay(sale, i / 8, i % 8), told[i]);
            }
            is(h.sale(sale, 6), told[0]);
        }
    }

    @Holds(in = "Terms 4", says = "REPAID: what the SALE would pay, if it were its NET amount told of NOW's month,")
    static void repaidOfTheNetAmount() {
        CommissionHouse h = chain();
        is(3, h.sell(3, 1000, 0));
        repays(h, 3, 1, 2, 10, 100);
        h.back(3, 51);
        repays(h, 3, 1, 2, 10, 49);
        pays(h, 3, 1, 2, 10, 100);
        // by the tree, and by who is active, of NOW
        is(0, h.move(3, 1, 1));
        repays(h, 3, 1, 2, 10, 49);
        h.months(1);
        is(0, h.repaid(3, 0, 0));
        h.sell(2, 100, 1);
        is(0, h.repaid(3, 0, 0));
        h.sell(1, 100, 1);
        is(1, h.repaid(3, 0, 0));
        repays(h, 3, 1, 1, 10, 49, 0, 0, 0, 1);
        // of one who has quit, too
        h.quit(3);
        repays(h, 3, 1, 1, 10, 49);
    }

    @Holds(in = "Terms 4", says = "but OWN, VOLUMES were all as they are (a NET of 0 takes LEVELS, too).")
    static void repaidCountsNothingMore() {
        CommissionHouse h = fresh(0);
        h.sell(0, 100, 0);
        is(1, h.sell(1, 600, 0));
        // 700 are no rank 1; the sale once more would make 1300 of it
        is(0, h.repaid(1, 1, 5));
        h.months(1);
        h.sell(0, 300, 1);
        h.sell(1, 99, 1);
        // 1099 are enough, but the leg is idle
        is(0, h.repaid(1, 1, 5));
        h.sell(1, 1, 1);
        is(1, h.repaid(1, 1, 5));
        h = chain();
        is(3, h.sell(3, 9, 0));
        h.back(3, 99);
        is(0, h.sale(3, 5));
        is(3, h.repaid(3, 0, 0));
        repays(h, 3, 1, 2, 10, 0, 0, 0, 0, 1);
        repays(h, 3, 3, 0, 0, 0, 0, 0, 0, 3);
    }

    @Holds(in = "Terms 4", says = "STALE: whether REPAID would have others take LEVELS, or more or fewer.")
    static void stale() {
        CommissionHouse h = chain();
        is(3, h.sell(3, 1000, 0));
        is(0, h.sale(3, 9));
        // another pay alone is not stale
        h.back(3, 50);
        h.sell(0, 5000, 0);
        is(0, h.sale(3, 9));
        // fewer
        h.back(0, 100);
        h.back(4, 100);
        is(1, h.sale(3, 9));
        h.sell(0, 100, 0);
        is(0, h.sale(3, 9));
        // others, as many
        is(4, h.join(2));
        h.sell(4, 100, 0);
        is(0, h.sale(3, 9));
        is(0, h.move(3, 4, 0));
        is(1, h.sale(3, 9));
        is(4, h.repaid(3, 0, 0));
        is(0, h.move(4, 1, 0));
        is(1, h.sale(3, 9));
        is(3, h.repaid(3, 0, 0));
        is(0, h.move(3, 2, 0));
        is(0, h.sale(3, 9));
        // more: one who was idle is active now
        h = fresh(0, 1);
        h.sell(0, 100, 0);
        is(1, h.sell(2, 100, 0));
        is(0, h.sale(1, 9));
        h.sell(1, 100, 0);
        is(1, h.sale(1, 9));
        // none then and none now
        is(0, h.sale(0, 9));
        // a sixth level is none: one more above the fifth changes nothing
        h = crew(planned("quota 1;"), 0, 1, 2, 3, 4, 5);
        for (int seller = 1; seller <= 5; seller++) {
            h.sell(seller, 1, 0);
        }
        is(5, h.sell(6, 100, 0));
        is(5, h.sale(5, 6));
        h.sell(0, 1, 0);
        is(0, h.sale(5, 9));
    }

    @Holds(in = "Terms 4", says = "GAP: by the least amount that a SELLER sells NOW himself, 0 to 9999, he would have the RANK, or a greater one.")
    static void gapIsTheLeastAmount() {
        CommissionHouse h = planned("rank 1 9999 0;rank 2 9999 1;");
        is(9999, h.gap(0, 1));
        is(NONE, h.gap(0, 2));
        h.sell(0, 9998, 0);
        is(1, h.gap(0, 1));
        h.sell(0, 1, 0);
        is(0, h.gap(0, 1));
        h.sell(0, 50, 0);
        is(0, h.gap(0, 1));
        is(0, planned("rank 1 0 0;").gap(0, 1));
        // by the group that NOW's window has
        h = planned("rank 1 500 0;");
        h.sell(0, 200, 0);
        h.months(1);
        is(300, h.gap(0, 1));
        h.months(1);
        is(500, h.gap(0, 1));
        // he himself is no leg of his own
        h = crew(planned("rank 1 10 1;quota 5;"), 0);
        is(NONE, h.gap(0, 1));
        h.sell(1, 5, 0);
        is(5, h.gap(0, 1));
        // a greater one is enough, and may be nearer
        h = planned("rank 1 900 0;rank 2 700 4;rank 3 300 0;");
        is(300, h.gap(0, 1));
        is(300, h.gap(0, 2));
        is(300, h.gap(0, 3));
    }

    @Holds(in = "Terms 4", says = "LIFT: those BELOW him, but not he himself, who have not QUIT, are not ACTIVE NOW:")
    static void liftIsOfTheIdleBelow() {
        String plan = "rank 1 100 0;rank 2 9999 4;rank 3 9999 4;quota 100;";
        CommissionHouse h = crew(planned(plan), 0, 1, 0);
        is(0b0010, h.lift(0, 1, true));
        is(0b0100, h.lift(1, 1, true));
        is(NONE, h.lift(2, 1, true));
        h.quit(1);
        is(0b0100, h.lift(0, 1, true));
        h.quit(2);
        is(0b1000, h.lift(0, 1, true));
        is(NONE, h.lift(1, 1, true));
        h.quit(3);
        is(NONE, h.lift(0, 1, true));
        // one who is active sells no more for it
        h = crew(planned("rank 1 201 0;rank 2 9999 4;rank 3 9999 4;quota 100;"), 0);
        h.sell(1, 100, 0);
        is(NONE, h.lift(0, 1, false));
        h.sell(0, 101, 0);
        is(0, h.lift(0, 1, false));
        // one who was active ahead of NOW may sell
        h = crew(planned("rank 1 200 0;rank 2 9999 4;rank 3 9999 4;quota 100;"), 0);
        h.sell(1, 100, 0);
        h.months(1);
        is(0b10, h.lift(0, 1, true));
    }

    @Holds(in = "Terms 4", says = "sets of them, each of a set selling NOW what lacks to QUOTA, by which he would have the RANK, or a greater one:")
    static void liftSellsWhatLacks() {
        CommissionHouse h = crew(planned("rank 1 100 0;rank 2 9999 4;rank 3 9999 4;quota 100;"), 0);
        h.sell(1, 30, 0);
        is(0b10, h.lift(0, 1, true));
        h = crew(planned("rank 1 101 0;rank 2 9999 4;rank 3 9999 4;quota 100;"), 0);
        h.sell(1, 30, 0);
        is(NONE, h.lift(0, 1, true));
        h.sell(0, 1, 0);
        is(0b10, h.lift(0, 1, true));
        // what was sold ahead of NOW is of the window, but not of the quota
        h = crew(planned("rank 1 130 0;rank 2 9999 4;rank 3 9999 4;quota 100;"), 0);
        h.sell(1, 30, 0);
        h.months(1);
        is(0b10, h.lift(0, 1, true));
        // a greater one is enough: two legs are too few for 1, but make a 2
        h = crew(planned("rank 1 0 4;rank 2 0 2;rank 3 9999 4;"), 0, 0, 0);
        is(0b110, h.lift(0, 1, true));
        // they are legs by it, those that are direct
        h = crew(planned("rank 1 0 1;rank 2 0 2;rank 3 0 3;"), 0, 1);
        is(0b010, h.lift(0, 1, true));
        is(NONE, h.lift(0, 2, true));
    }

    @Holds(in = "Terms 4", says = "the one of fewest, of several the least (bits).")
    static void liftIsOfTheFewest() {
        String quota = "rank 2 9999 4;rank 3 9999 4;quota 100;";
        CommissionHouse h = crew(planned("rank 1 150 0;" + quota), 0, 0, 0, 0);
        is(2, h.lift(0, 1, false));
        is(0b00110, h.lift(0, 1, true));
        h.sell(0, 50, 0);
        is(1, h.lift(0, 1, false));
        is(0b00010, h.lift(0, 1, true));
        // one that is enough by itself, though its bits are greater than those of two: 1 and 2 bring 50 each, 3 brings 100
        h = crew(planned("rank 1 200 0;" + quota), 0, 0, 0);
        h.sell(1, 50, 0);
        h.sell(2, 50, 0);
        is(1, h.lift(0, 1, false));
        is(0b1000, h.lift(0, 1, true));
        h.quit(3);
        is(2, h.lift(0, 1, false));
        is(0b0110, h.lift(0, 1, true));
        h = crew(planned("rank 1 150 0;" + quota), 0, 0, 0);
        h.sell(1, 90, 0);
        h.sell(2, 40, 0);
        h.quit(3);
        // 130: 1 would bring 10 of the 20 that lack, 2 brings 60
        is(0b0100, h.lift(0, 1, true));
        h = crew(planned("rank 1 0 4;rank 2 9999 4;rank 3 9999 4;quota 9;"), 0, 0, 0, 0, 0, 0, 0, 0, 0);
        is(4, h.lift(0, 1, false));
        is(0b11110, h.lift(0, 1, true));
        h.quit(1);
        h.quit(2);
        h.quit(4);
        h.quit(6);
        h.quit(8);
        is(0b1010101000, h.lift(0, 1, true));
        // all nine, the most there can be
        h = crew(planned("rank 1 81 0;rank 2 9999 4;rank 3 9999 4;quota 9;"), 0, 1, 2, 3, 4, 5, 6, 7, 8);
        is(9, h.lift(0, 1, false));
        is(0b1111111110, h.lift(0, 1, true));
        is(NONE, h.lift(1, 1, true));
        is(0, planned("rank 1 0 0;").lift(0, 1, false));
        is(0, planned("rank 1 0 0;").lift(0, 1, true));
    }

    @Holds(in = "Terms 4", says = "PLACE: a new SELLER under one who has not QUIT, selling so much NOW (as if there were room):")
    static void placeOfANewSeller() {
        CommissionHouse h = fresh(0, 1);
        h.sell(1, 100, 0);
        is(1, h.place(1, 100, false));
        is(10, h.place(1, 100, true));
        h.quit(1);
        is(0, h.place(1, 100, false));
        is(0, h.place(1, 100, true));
        // a leg brings 0 the rank that opens nothing, so that the one place that pays is under 1
        h = crew(planned("quota 1;opens 0 0;opens 1 5;opens 2 0;rank 1 500 0;rank 2 500 1;rank 3 9999 4;"), 0);
        h.sell(0, 1, 0);
        is(1, h.place(0, 499, false));
        is(49, h.place(0, 499, true));
        h.quit(1);
        is(0, h.place(0, 499, false));
        is(0, h.place(0, 499, true));
        // ten sellers and forty sales are no bar, and nothing is changed by it
        h = fresh(0, 0, 0, 0, 0, 0, 0, 0, 0);
        for (int n = 0; n < 40; n++) {
            is(n, h.sell(9, 100, 0));
        }
        is(9, h.place(9, 100, false));
        is(10, h.place(9, 100, true));
        is(10, h.books(1));
        is(40, h.books(2));
        is(NONE, h.join(9));
        is(0, h.tree(9, 0, 3));
    }

    @Holds(in = "Terms 4", says = "under whom, so that PAYS to a SELLER by it are most together, of several the least.")
    static void placeIsWhereItPaysMost() {
        CommissionHouse h = chain();
        is(0, h.place(0, 100, false));
        is(2, h.place(2, 100, false));
        // nobody pays him: the least of all
        is(0, h.place(3, 100, false));
        is(0, h.place(3, 100, true));
        // level 2 pays more than level 1; of two of the same, the least
        h = crew(planned("quota 1;opens 0 5;level 1 flat 1;level 2 flat 7;rank 1 9999 4;rank 2 9999 4;rank 3 9999 4;"), 0, 0, 0, 2);
        for (int seller = 0; seller <= 4; seller++) {
            h.sell(seller, 1, 0);
        }
        is(1, h.place(0, 100, false));
        is(7, h.place(0, 100, true));
        h.quit(1);
        is(2, h.place(0, 100, false));
        is(4, h.place(2, 100, false));
        // the new one is direct, a leg, and of the group
        h = crew(planned("quota 50;opens 0 0;opens 1 1;rank 1 150 2;rank 2 9999 4;rank 3 9999 4;level 1 wide 5;"), 0);
        h.sell(0, 50, 0);
        h.sell(1, 50, 0);
        // nothing stays of one that was asked of ahead
        for (int n = 0; n < 3; n++) {
            is(0, h.place(0, 49, true));
            is(5, h.place(0, 50, true));
            is(10, h.place(0, 100, true));
        }
        // ten below: by a leg 0 would have the rank that opens nothing, so that under 9 alone it pays
        h = crew(planned("rank 1 500 0;rank 2 500 1;rank 3 9999 4;opens 0 0;opens 1 5;opens 2 0;quota 1;"),
            0, 1, 2, 3, 4, 5, 6, 7, 8);
        h.sell(0, 1, 0);
        for (int seller = 1; seller <= 8; seller++) {
            h.quit(seller);
        }
        is(9, h.place(0, 499, false));
        is(49, h.place(0, 499, true));
        is(0, h.place(0, 498, true));
    }

    @Holds(in = "Terms 4", says = "SPILL: if all of a SALE came back: how many SELLERS would have a DEBT.")
    static void spill() {
        CommissionHouse h = crew(planned("vest 0;quota 0;opens 0 5;"), 0, 1);
        is(0, h.sell(2, 100, 0));
        is(1, h.sell(2, 100, 0));
        is(0, h.sale(0, 10));
        // 1 has 20, 0 has 10
        h.draw(1, 10);
        h.draw(0, 5);
        is(0, h.sale(0, 10));
        h.draw(1, 1);
        is(1, h.sale(0, 10));
        h.draw(0, 1);
        is(2, h.sale(0, 10));
        h.back(0, 50);
        is(2, h.sale(0, 10));
        is(2, h.sale(1, 10));
        // it is asked only
        is(50, h.sale(0, 4));
        h.back(0, 50);
        // by the other one alone both have a debt now, and by none of it no more than that
        is(2, h.books(14));
        is(2, h.sale(0, 10));
        // one who has a debt already counts, whatever sale comes back
        is(2, h.sell(0, 100, 0));
        is(2, h.sale(2, 10));
    }

    @Holds(in = "Terms 4", says = "EXPOSED: what is VESTED of all PAYS of a SELLER's SALES.")
    static void exposed() {
        CommissionHouse h = crew(planned("vest 2;quota 0;opens 0 5;"), 0, 1);
        h.sell(2, 110, 0);
        h.sell(2, 100, 0);
        is(0, h.seller(2, 11));
        h.months(1);
        // of 11 and 5: 5 and 2; of 10 and 5: 5 and 2
        is(14, h.seller(2, 11));
        is(0, h.seller(1, 11));
        h.months(1);
        is(31, h.seller(2, 11));
        h.back(0, 100);
        is(15, h.seller(2, 11));
        h.quit(2);
        is(15, h.seller(2, 11));
    }

    @Holds(in = "Terms 4", says = "DUE at a month, NOW to NOW and 12: what his EARNED will be, if nothing happens but months.")
    static void due() {
        CommissionHouse h = ninety();
        h.months(1);
        int[] due = {30, 60, 90, 90};
        for (int i = 0; i < 4; i++) {
            is(due[i], h.due(1, 1 + i));
        }
        is(90, h.due(1, 13));
        is(h.seller(1, 3), h.due(1, 1));
        // what is drawn is no matter, of one who has quit all stays
        h.draw(1, 30);
        is(60, h.due(1, 2));
        h.quit(1);
        is(30, h.due(1, 13));
        h = crew(planned("vest 12;quota 0;"), 0);
        h.sell(1, 120, 0);
        is(11, h.due(0, 11));
        is(12, h.due(0, 12));
    }

    @Holds(in = "Terms 4", says = "READY: the first month, from NOW on, at which DUE less what is DRAWN would be so much at least.")
    static void readyIsTheFirstMonth() {
        CommissionHouse h = ninety();
        is(0, h.ready(1, 0));
        is(1, h.ready(1, 1));
        is(1, h.ready(1, 30));
        is(2, h.ready(1, 31));
        is(2, h.ready(1, 60));
        is(3, h.ready(1, 61));
        is(3, h.ready(1, 90));
        is(NONE, h.ready(1, 91));
        h.months(2);
        is(2, h.ready(1, 30));
        h.draw(1, 50);
        is(2, h.ready(1, 10));
        is(3, h.ready(1, 11));
        is(3, h.ready(1, 40));
        is(NONE, h.ready(1, 41));
        // out of a debt
        h.back(1, 50);
        is(-20, h.seller(1, 5));
        is(2, h.ready(1, -20));
        is(3, h.ready(1, -19));
        is(3, h.ready(1, -5));
        is(NONE, h.ready(1, -4));
        h = crew(planned("vest 12;quota 0;"), 0);
        h.sell(1, 120, 0);
        is(12, h.ready(0, 12));
        is(11, h.ready(0, 11));
    }

    // Promise 21.

    @Holds(in = "Promise 21", says = "QUOTE, of a LEVEL, what as pay(), 0 to 6,")
    static void quoteFacts() {
        CommissionHouse h = chain();
        quotes(h, 3, 1000, 1, 2, 10, 100, 0, 0, 1, 1);
        quotes(h, 3, 1000, 2, 1, 5, 50, 0, 0, 1, 2);
        quotes(h, 3, 1000, 3, 0, 0, 0, 0, 0, 1, 3);
        quotes(h, 3, 100, 2, 1, 5, 0, 5, 0, 0, 2);
    }

    @Holds(in = "Promise 21", says = "or (of LEVEL 0, whatever the what) how many are taken.")
    static void quoteLevels() {
        CommissionHouse h = chain();
        for (int what : new int[] {0, 1, 6, 7, -1, MIN, MAX}) {
            is(3, h.quote(3, 1, 0, what));
            is(0, h.quote(0, 1, 0, what));
        }
    }

    @Holds(in = "Promise 21", says = "-2: nobody would take it,")
    static void quoteOfALevelNobodyTakes() {
        CommissionHouse h = chain();
        for (int what = 0; what <= 6; what++) {
            is(-2, h.quote(3, 100, 4, what));
            is(-2, h.quote(3, 100, 5, what));
            is(-2, h.quote(0, 100, 1, what));
        }
        is(2, h.quote(3, 100, 1, 0));
    }

    @Holds(in = "Promise 21", says = "sell() could not be by any but there being 40 SALES,")
    static void quoteOfASaleThatCantBe() {
        CommissionHouse h = busy();
        for (int level = 0; level <= 5; level++) {
            for (int none : new int[] {-1, 5, 10, 256, MIN, MAX}) {
                is(-2, h.quote(none, 100, level, 0));
            }
            is(-2, h.quote(4, 100, level, 0));
            for (int amount : new int[] {0, -1, 10000, 65536 + 5, MIN, MAX}) {
                is(-2, h.quote(1, amount, level, 0));
            }
        }
        h = fresh(0);
        for (int n = 0; n < 40; n++) {
            is(n, h.sell(0, 100, 0));
        }
        is(NONE, h.sell(1, 100, 0));
        is(1, h.quote(1, 100, 0, 0));
        quotes(h, 1, 1, 1, 0, 10, 0, 0, 0, 0, 1);
        quotes(h, 1, 9999, 1, 0, 10, 999, 0, 0, 1, 1);
        is(40, h.books(2));
    }

    @Holds(in = "Promise 21", says = "or for another LEVEL, what.")
    static void quoteOfAnotherLevel() {
        CommissionHouse h = chain();
        for (int what = 0; what <= 6; what++) {
            for (int level : new int[] {-1, 6, 256, 257, MIN, MAX}) {
                is(-2, h.quote(3, 100, level, what));
            }
        }
        for (int what : new int[] {-1, 7, 8, 256, MIN, MAX}) {
            is(-2, h.quote(3, 100, 1, what));
            is(-2, h.quote(3, 100, 3, what));
        }
    }

    // Promise 22.

    @Holds(in = "Promise 22", says = "REPAID, of a LEVEL, what as pay(), 0 to 6,")
    static void repaidFacts() {
        CommissionHouse h = chain();
        h.sell(3, 1000, 0);
        repays(h, 3, 1, 2, 10, 100, 0, 0, 1, 1);
        repays(h, 3, 2, 1, 5, 50, 0, 0, 1, 2);
        repays(h, 3, 3, 0, 0, 0, 0, 0, 1, 3);
    }

    @Holds(in = "Promise 22", says = "or (of LEVEL 0, whatever the what) how many are taken.")
    static void repaidLevels() {
        CommissionHouse h = chain();
        for (int what : new int[] {0, 1, 6, 7, -1, MIN, MAX}) {
            is(0, h.repaid(0, 0, what));
            is(1, h.repaid(1, 0, what));
            is(2, h.repaid(2, 0, what));
        }
    }

    @Holds(in = "Promise 22", says = "-2: nobody would take it, there is none such, or for another LEVEL, what.")
    static void repaidRefused() {
        CommissionHouse h = chain();
        for (int what = 0; what <= 6; what++) {
            is(-2, h.repaid(0, 1, what));
            is(-2, h.repaid(2, 3, what));
            for (int level : new int[] {-1, 6, 256, 257, MIN, MAX}) {
                is(-2, h.repaid(2, level, what));
            }
            for (int none : new int[] {-1, 3, 40, 256, MIN, MAX}) {
                is(-2, h.repaid(none, 1, what));
                is(-2, h.repaid(none, 0, what));
            }
        }
        for (int what : new int[] {-1, 7, 8, 256, MIN, MAX}) {
            is(-2, h.repaid(2, 1, what));
        }
        is(-2, new CommissionHouse().repaid(0, 0, 0));
    }

    // Promises 23 to 27.

    @Holds(in = "Promise 23", says = "GAP to a RANK, 1 .. 3.")
    static void gapToARank() {
        CommissionHouse h = planned("rank 1 10 0;rank 2 20 0;rank 3 30 0;");
        h.sell(0, 5, 0);
        is(5, h.gap(0, 1));
        is(15, h.gap(0, 2));
        is(25, h.gap(0, 3));
    }

    @Holds(in = "Promise 23", says = "NONE: by no such amount, he has QUIT, there is none such (of either).")
    static void gapRefused() {
        CommissionHouse h = fresh(0);
        is(NONE, h.gap(0, 1));
        is(NONE, h.gap(1, 3));
        h = crew(planned("rank 1 0 0;rank 2 0 0;rank 3 0 0;"), 0);
        for (int rank = 1; rank <= 3; rank++) {
            is(0, h.gap(1, rank));
            for (int none : new int[] {-1, 2, 10, 256, MIN, MAX}) {
                is(NONE, h.gap(none, rank));
            }
        }
        for (int rank : new int[] {-1, 0, 4, 256, 257, MIN, MAX}) {
            is(NONE, h.gap(0, rank));
        }
        h.quit(1);
        is(NONE, h.gap(1, 1));
        is(NONE, h.gap(1, 3));
    }

    @Holds(in = "Promise 24", says = "LIFT to a RANK, 1 .. 3: how many, or (which) which (bits).")
    static void liftToARank() {
        CommissionHouse h = crew(planned("rank 1 0 1;rank 2 0 2;rank 3 0 3;"), 0, 0, 0);
        for (int rank = 1; rank <= 3; rank++) {
            is(rank, h.lift(0, rank, false));
            is((2 << rank) - 2, h.lift(0, rank, true));
        }
    }

    @Holds(in = "Promise 24", says = "NONE: by none, there is none such (of either).")
    static void liftRefused() {
        CommissionHouse h = fresh(0);
        for (boolean which : new boolean[] {false, true}) {
            is(NONE, h.lift(0, 1, which));
            is(NONE, h.lift(1, 1, which));
            for (int none : new int[] {-1, 2, 10, 256, MIN, MAX}) {
                is(NONE, h.lift(none, 1, which));
            }
            CommissionHouse easy = crew(planned("rank 1 0 0;rank 2 0 0;rank 3 0 0;"), 0);
            for (int rank : new int[] {-1, 0, 4, 256, 257, MIN, MAX}) {
                is(NONE, easy.lift(0, rank, which));
            }
            is(0, easy.lift(0, 3, which));
            // of one who has quit it is told
            easy.quit(1);
            is(0, easy.lift(1, 1, which));
        }
    }

    @Holds(in = "Promise 25", says = "PLACE for a SELLER, of an amount, 1 .. 9999: under whom, or (much) how much he is paid.")
    static void placeFor() {
        CommissionHouse h = fresh(0);
        h.sell(1, 100, 0);
        is(0, h.place(1, 1, true));
        is(0, h.place(1, 1, false));
        is(1, h.place(1, 10, false));
        is(1, h.place(1, 10, true));
        is(999, h.place(1, 9999, true));
        is(1, h.place(1, 9999, false));
    }

    @Holds(in = "Promise 25", says = "NONE: there is none such, or for another amount.")
    static void placeRefused() {
        CommissionHouse h = fresh(0);
        for (boolean much : new boolean[] {false, true}) {
            for (int none : new int[] {-1, 2, 10, 256, MIN, MAX}) {
                is(NONE, h.place(none, 100, much));
            }
            for (int amount : new int[] {0, -1, 10000, 65536 + 5, MIN, MAX}) {
                is(NONE, h.place(0, amount, much));
            }
        }
    }

    @Holds(in = "Promise 26", says = "DUE of a SELLER at a month (above 99, too).")
    static void dueAboveNinetyNine() {
        CommissionHouse h = crew(planned("vest 12;quota 0;"), 0);
        pass(h, 99);
        h.sell(1, 120, 99);
        for (int month = 99; month <= 111; month++) {
            is(month - 99, h.due(0, month));
        }
        is(NONE, h.due(0, 112));
    }

    @Holds(in = "Promise 26", says = "NONE: there is none such, or for another month.")
    static void dueRefused() {
        CommissionHouse h = pass(fresh(0), 3);
        is(0, h.due(0, 3));
        is(0, h.due(0, 15));
        for (int month : new int[] {2, 16, 0, -1, 256, MIN, MIN + 3, MAX}) {
            is(NONE, h.due(0, month));
        }
        for (int none : new int[] {-1, 2, 10, 256, MIN, MAX}) {
            is(NONE, h.due(none, 3));
        }
    }

    @Holds(in = "Promise 27", says = "READY of a SELLER for so much: the month (above 99, too).")
    static void readyAboveNinetyNine() {
        CommissionHouse h = crew(planned("vest 12;quota 0;"), 0);
        pass(h, 99);
        h.sell(1, 120, 99);
        is(99, h.ready(0, 0));
        is(100, h.ready(0, 1));
        is(111, h.ready(0, 12));
        is(99, h.ready(0, -5));
        is(99, h.ready(0, MIN));
    }

    @Holds(in = "Promise 27", says = "NONE: never, or there is none such.")
    static void readyRefused() {
        CommissionHouse h = ninety();
        is(NONE, h.ready(1, 91));
        is(NONE, h.ready(1, MAX));
        is(NONE, h.ready(2, 1));
        h.months(1);
        h.quit(1);
        is(1, h.ready(1, 30));
        is(NONE, h.ready(1, 31));
        for (int none : new int[] {-1, 3, 10, 256, MIN, MAX}) {
            is(NONE, h.ready(none, 0));
            is(NONE, h.ready(none, MIN));
        }
    }

    // Promises 30 and 31.

    private static CommissionHouse imaged(int k) {
        CommissionHouse h = busy();
        tell(h, "cap 100;");
        h.plan();
        tell(h, "quota 3");
        is(true, h.image(k));
        return h;
    }

    @Holds(in = "Promise 30", says = "Image k (0 .. 2) is all that is (the tape, the FAULT, the PLAN, too), as it is now: true;")
    static void images() {
        for (int k = 0; k < 3; k++) {
            CommissionHouse h = imaged(k);
            tell(h, "vest 9;quota 0;opens 0 5;");
            is(0, h.plan());
            h.months(2);
            crew(h, 0, 0, 2, 3);
            for (int seller = 4; seller >= 0; seller--) {
                h.sell(seller, 5000, 2);
                h.back(4 - seller, 5);
                h.move(seller, seller / 2, 3);
            }
            h.months(1);
            h.draw(0, 7);
            h.quit(1);
            h.quit(3);
            is(true, h.again(k));
            is(digest(imaged(k)), digest(h));
            // a later image takes the place of one ahead of it
            h = imaged(k);
            h.months(3);
            is(true, h.image(k));
            h.months(1);
            is(true, h.again(k));
            is(4, h.books(0));
        }
    }

    /** Ten sellers and forty sales: 1 is under 9, who has 12 moves, 8, 7 and so on. */
    private static CommissionHouse full() {
        CommissionHouse h = crew(planned("quota 0;opens 0 5;level 3 flat 1;level 4 flat 1;level 5 flat 1;vest 0;"),
            0, 0, 2, 3, 4, 5, 6, 7, 8);
        h.move(1, 9, 0);
        for (int month = 0; month <= 11; month++) {
            is(0, h.move(9, 7 + month % 2, month));
            h.months(month % 2);
        }
        for (int n = 0; n < 40; n++) {
            is(n, h.sell(1, 100 + 10 * n, 6 - n % 3));
        }
        h.back(39, 7);
        h.draw(9, 11);
        h.quit(9);
        return h;
    }

    /** The last of all that a full house has. */
    private static String lastOf(CommissionHouse h) {
        StringBuilder told = new StringBuilder();
        for (int what = 0; what < 12; what++) {
            told.append(h.seller(9, what)).append(' ');
        }
        for (int i = 0; i < 24; i++) {
            told.append(h.moved(9, i / 2, i % 2)).append(' ');
        }
        for (int i = 0; i < 64; i++) {
            told.append(h.journal(9, i / 4, i % 4)).append(' ');
        }
        for (int what = 0; what < 9; what++) {
            told.append(h.pay(39, 5, what)).append(' ').append(h.sale(39, what)).append(' ').append(h.sale(0, what));
        }
        return told.toString();
    }

    @Holds(in = "Promise 30", says = "all that is (the tape, the FAULT, the PLAN, too)")
    static void imagesOfAFullHouse() {
        CommissionHouse h = full();
        h.image(2);
        tell(h, "quota 1;vest 3;");
        is(0, h.plan());
        h.months(3);
        crew(h, 0, 0, 0, 0, 0, 0, 0, 0, 0);
        for (int month = 3; month <= 14; month++) {
            is(0, h.move(9, 1 + month % 5, month));
            h.months(month % 2);
        }
        for (int n = 0; n < 40; n++) {
            is(n, h.sell(n % 10, 9999, 9));
        }
        h.back(39, 90);
        h.quit(9);
        String was = lastOf(full());
        is(false, was.equals(lastOf(h)));
        is(true, h.again(2));
        is(was, lastOf(h));
    }

    @Holds(in = "Promise 30", says = "false for another k.")
    static void imageRefused() {
        CommissionHouse h = busy();
        for (int k : new int[] {-1, 3, 256, MIN, MAX}) {
            is(false, h.image(k));
            is(false, h.again(k));
        }
        is(digest(busy()), digest(h));
    }

    @Holds(in = "Promise 31", says = "All that is is as image k has it: true;")
    static void again() {
        CommissionHouse h = new CommissionHouse();
        for (int k = 0; k < 3; k++) {
            is(k + 1, h.months(1));
            is(true, h.image(k));
        }
        crew(h, 0);
        h.months(5);
        for (int k : new int[] {2, 0, 1, 1, 2}) {
            is(true, h.again(k));
            is(k + 1, h.books(0));
            is(1, h.books(1));
            // what is done then is not done to the image
            crew(h, 0);
            h.sell(0, 9, k + 1);
            h.months(2);
        }
        // an image is there still behind another one's again
        is(true, h.again(0));
        is(true, h.again(2));
        is(3, h.books(0));
    }

    @Holds(in = "Promise 31", says = "false if there is none such.")
    static void againRefused() {
        CommissionHouse h = new CommissionHouse();
        h.months(2);
        for (int k : new int[] {0, 1, 2, -1, 3, 256, MIN, MAX}) {
            is(false, h.again(k));
        }
        is(2, h.books(0));
        is(true, h.image(1));
        h.months(1);
        is(false, h.again(0));
        is(false, h.again(2));
        is(3, h.books(0));
        is(true, h.again(1));
        is(2, h.books(0));
    }
}
