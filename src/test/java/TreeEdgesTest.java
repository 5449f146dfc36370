/** Boundary cases of Terms 2 and of promises 6 to 9 and 15 to 18: months, joins, moves, quits, the tree. */
public final class TreeEdgesTest extends Edges {
    private TreeEdgesTest() {
    }

    public static void main(String[] args) throws ReflectiveOperationException {
        run(TreeEdgesTest.class, "edges of trees");
    }

    /** Seller 3, under 0 as 1 and 2 are, has 12 moves, of months 0 to 11, to 2 and 1 by turns; NOW is 6. */
    private static CommissionHouse twelveMoves() {
        CommissionHouse h = fresh(0, 0, 0);
        for (int month = 0; month <= 6; month++) {
            is(0, h.move(3, 2 - month % 2, month));
        }
        pass(h, 6);
        for (int month = 7; month <= 11; month++) {
            is(0, h.move(3, 2 - month % 2, month));
        }
        is(12, h.seller(3, 2));
        return h;
    }

    // Terms 2: months and sellers.

    @Holds(in = "Terms 2", says = "MONTHS are 0 .. 99; NOW is 0 at first.")
    static void monthsAreUpToNinetyNine() {
        CommissionHouse h = new CommissionHouse();
        is(0, h.books(0));
        pass(h, 99);
        is(NONE, h.months(1));
        is(99, h.books(0));
        is(0, h.tree(0, 99, 4));
        is(0, h.tree(0, 0, 4));
        is(-2, h.tree(0, 100, 4));
        is(-2, h.tree(0, -1, 4));
    }

    @Holds(in = "Terms 2", says = "SELLERS, at most 10, from 0 on:")
    static void tenSellers() {
        CommissionHouse h = new CommissionHouse();
        is(1, h.books(1));
        for (int seller = 1; seller <= 9; seller++) {
            is(seller, h.join(0));
        }
        is(10, h.books(1));
        is(NONE, h.join(9));
        is(10, h.books(1));
        is(0, h.seller(9, 0));
        is(-1000000, h.seller(10, 0));
        is((1 << 10) - 1, h.tree(0, 0, 2));
    }

    @Holds(in = "Terms 2", says = "SELLER 0 JOINED at 0 and has no SPONSOR;")
    static void theFirstSeller() {
        CommissionHouse h = pass(new CommissionHouse(), 7);
        is(0, h.seller(0, 0));
        for (int month : new int[] {0, 7, 13}) {
            is(NONE, h.tree(0, month, 0));
            is(0, h.tree(0, month, 1));
        }
    }

    @Holds(in = "Terms 2", says = "another one JOINED as he was told of, under a SPONSOR.")
    static void another() {
        CommissionHouse h = crew(pass(new CommissionHouse(), 5), 0);
        pass(h, 2);
        crew(h, 1);
        is(5, h.seller(1, 0));
        is(7, h.seller(2, 0));
        is(0, h.tree(1, 5, 0));
        is(1, h.tree(2, 7, 0));
    }

    @Holds(in = "Terms 2", says = "As a PLAN is taken from the TAPE, the house begins anew: NOW 0, SELLER 0 alone, nothing sold, drawn.")
    static void aPlanBeginsAnew() {
        CommissionHouse h = busy();
        h.draw(0, 3);
        tell(h, "vest 2;quota 10;rank 1 300 1;");
        is(0, h.plan());
        is(0, h.books(0));
        is(1, h.books(1));
        is(0, h.books(2));
        is(0, h.books(12));
        is(0, h.books(15));
        // who joins then has nothing of him who had the number: no moves, no lines, no quit; nor has a sale
        CommissionHouse other = planned("vest 2;quota 10;rank 1 300 1;");
        for (CommissionHouse each : new CommissionHouse[] {h, other}) {
            crew(each, 0, 0, 0, 0);
            for (int seller : new int[] {0, 2}) {
                each.sell(seller, 100, 0);
            }
        }
        is(digest(other), digest(h));
        // images are no part of it
        is(true, h.again(1));
        is(5, h.books(1));
    }

    @Holds(in = "Terms 2", says = "(With a FAULT all stays as it was, but the TAPE, the FAULT.)")
    static void aFaultLeavesAll() {
        for (String text : new String[] {"vest 0;quota", "vest 0;cap 100;", "window 1;level 1 flat 21;"}) {
            CommissionHouse h = busy();
            tell(h, text);
            is(NONE, h.plan());
            is(NONE, h.end(1));
            tell(h, "cap 5;");
            String before = digest(busy());
            String after = digest(h);
            // the line behind the last one begins with the fault and its place
            is(before.substring(0, before.lastIndexOf('\n')), after.substring(0, after.lastIndexOf('\n')));
        }
    }

    // Terms 2: moves, uplines, who is below.

    @Holds(in = "Terms 2", says = "A MOVE of a SELLER is to another SPONSOR from a month on;")
    static void aMoveIsFromAMonthOn() {
        CommissionHouse h = fresh(0, 0);
        is(0, h.move(2, 1, 4));
        for (int month = 0; month <= 6; month++) {
            is(month < 4 ? 0 : 1, h.tree(2, month, 0));
        }
        pass(h, 50);
        is(1, h.tree(2, 56, 0));
        is(0, h.tree(2, 3, 0));
        is(0, h.move(2, 0, 50));
        is(1, h.tree(2, 49, 0));
        is(0, h.tree(2, 50, 0));
    }

    @Holds(in = "Terms 2", says = "of one month the one told later counts,")
    static void ofOneMonthTheLater() {
        CommissionHouse h = fresh(0, 0, 0);
        is(0, h.move(3, 1, 4));
        is(0, h.move(3, 2, 4));
        is(0, h.tree(3, 3, 0));
        is(2, h.tree(3, 4, 0));
        is(1, h.seller(3, 2));
        // back to where he was is a move, too
        is(0, h.move(3, 0, 4));
        is(0, h.tree(3, 4, 0));
        is(1, h.seller(3, 2));
        is(0, h.moved(3, 0, 1));
    }

    @Holds(in = "Terms 2", says = "and of all the latest one by month, up to the month that is asked of.")
    static void theLatestByMonth() {
        CommissionHouse h = fresh(0, 0, 0);
        is(0, h.move(3, 1, 5));
        is(0, h.move(3, 2, 2));
        int[] sponsors = {0, 0, 2, 2, 2, 1, 1};
        for (int month = 0; month <= 6; month++) {
            is(sponsors[month], h.tree(3, month, 0));
        }
    }

    @Holds(in = "Terms 2", says = "The UPLINE of a SELLER at a month: his SPONSOR, the SPONSOR of that one, and so on.")
    static void uplines() {
        CommissionHouse h = fresh(0, 1, 2, 3, 4, 5, 6, 7, 8);
        for (int seller = 0; seller <= 9; seller++) {
            is(seller, h.tree(seller, 0, 1));
        }
        is(0, h.move(5, 0, 3));
        is(9, h.tree(9, 2, 1));
        is(5, h.tree(9, 3, 1));
        is(1, h.tree(5, 3, 1));
        is(4, h.tree(4, 3, 1));
    }

    @Holds(in = "Terms 2", says = "DIRECT under him: those whose SPONSOR he is;")
    static void direct() {
        CommissionHouse h = fresh(0, 0, 1, 3);
        is(0b00110, h.tree(0, 0, 3));
        is(0b01000, h.tree(1, 0, 3));
        is(0, h.tree(4, 0, 3));
        is(0, h.move(3, 0, 2));
        is(0b01000, h.tree(1, 1, 3));
        is(0, h.tree(1, 2, 3));
        is(0b01110, h.tree(0, 2, 3));
    }

    @Holds(in = "Terms 2", says = "BELOW him: himself, and those in whose UPLINE he is (of both, those that JOINED by that month).")
    static void below() {
        CommissionHouse h = crew(pass(fresh(0), 3), 1, 2);
        is(0b0011, h.tree(0, 0, 2));
        is(0b0011, h.tree(0, 2, 2));
        is(0b1111, h.tree(0, 3, 2));
        is(0b0010, h.tree(1, 2, 2));
        is(0b1110, h.tree(1, 3, 2));
        is(0b1000, h.tree(3, 3, 2));
        is(0, h.tree(1, 2, 3));
        is(0b0100, h.tree(1, 3, 3));
    }

    @Holds(in = "Terms 2", says = "He who QUITS at a month stays where he is.")
    static void whoQuitsStays() {
        CommissionHouse h = fresh(0, 1, 2);
        h.sell(0, 100, 0);
        is(0, h.quit(1));
        is(0, h.tree(1, 0, 0));
        is(1, h.tree(2, 0, 0));
        is(0b1111, h.tree(0, 0, 2));
        is(0b0010, h.tree(0, 0, 3));
        is(0b1110, h.tree(1, 0, 2));
        is(3, h.tree(0, 0, 9));
        is(3, h.tree(3, 0, 1));
        is(1, h.common(1, 3, 0));
        pass(h, 4);
        is(0b1110, h.tree(1, 10, 2));
        // who is below him can still be moved away, and go on selling
        is(0, h.move(3, 0, 4));
        is(1, h.sell(2, 100, 4));
    }

    // Terms 2: reasons.

    @Holds(in = "Terms 2", says = "REASONS why a MOVE can't be, the first of these:")
    static void theFirstReason() {
        CommissionHouse h = fresh(0, 1, 0);
        h.quit(3);
        is(1, h.why(0, 1, 7));
        is(1, h.why(4, 1, -1));
        is(1, h.why(1, 4, 7));
        is(1, h.why(0, 3, 0));
        is(1, h.why(3, 4, 0));
        is(1, h.why(0, 0, 0));
        is(2, h.why(3, 1, 7));
        is(2, h.why(1, 3, -1));
        is(2, h.why(2, 1, 7));
        is(2, h.why(1, 2, 7));
        is(3, h.why(3, 0, 0));
        is(3, h.why(3, 3, 0));
        h.quit(1);
        is(3, h.why(2, 1, 0));
        is(3, h.why(1, 2, 0));
        h = twelveMoves();
        is(1, h.why(3, 4, 12));
        is(2, h.why(3, 1, 13));
        is(4, h.why(3, 1, 12));
        is(5, h.why(3, 3, 12));
        h.quit(2);
        is(3, h.why(3, 2, 12));
    }

    @Holds(in = "Terms 2", says = "1 there is no such SELLER (of either), or it is SELLER 0 that would be moved;")
    static void reasonOne() {
        CommissionHouse h = fresh(0, 0);
        for (int none : new int[] {-1, 3, 9, 10, 256, MIN, MAX}) {
            is(1, h.why(none, 1, 0));
            is(1, h.why(2, none, 0));
        }
        is(1, h.why(0, 1, 0));
        is(1, h.why(0, 2, 6));
        is(0, h.why(2, 1, 0));
    }

    @Holds(in = "Terms 2", says = "2 the month is not NOW to NOW and 6, or is above 99;")
    static void reasonTwo() {
        CommissionHouse h = pass(fresh(0, 0), 3);
        is(2, h.why(2, 1, 2));
        is(0, h.why(2, 1, 3));
        is(0, h.why(2, 1, 9));
        is(2, h.why(2, 1, 10));
        is(2, h.why(2, 1, -1));
        is(2, h.why(2, 1, MIN));
        is(2, h.why(2, 1, MIN + 3));
        is(2, h.why(2, 1, MAX));
        pass(h, 90);
        is(0, h.why(2, 1, 99));
        is(2, h.why(2, 1, 100));
        pass(h, 1);
        is(0, h.why(2, 1, 99));
        is(2, h.why(2, 1, 100));
        pass(h, 5);
        is(0, h.why(2, 1, 99));
        is(2, h.why(2, 1, 100));
        is(2, h.why(2, 1, 98));
    }

    @Holds(in = "Terms 2", says = "3 one of both has QUIT;")
    static void reasonThree() {
        CommissionHouse h = fresh(0, 0, 0);
        h.quit(1);
        is(3, h.why(1, 2, 0));
        is(3, h.why(2, 1, 0));
        is(3, h.why(1, 2, 6));
        is(0, h.why(2, 3, 0));
    }

    @Holds(in = "Terms 2", says = "4 he has that SPONSOR at that month;")
    static void reasonFour() {
        CommissionHouse h = fresh(0, 0, 1);
        is(4, h.why(3, 1, 0));
        is(4, h.why(3, 1, 6));
        is(0, h.move(3, 2, 3));
        is(4, h.why(3, 1, 2));
        is(0, h.why(3, 1, 3));
        is(4, h.why(3, 2, 3));
        is(0, h.why(3, 2, 2));
        is(4, h.why(3, 2, 6));
        is(4, h.why(1, 0, 0));
    }

    @Holds(in = "Terms 2", says = "5 by it, and all MOVES there are, somebody would be in his own UPLINE at a month from that on;")
    static void reasonFive() {
        CommissionHouse h = fresh(0, 1, 2, 0, 0);
        is(5, h.why(1, 1, 0));
        is(5, h.why(1, 2, 0));
        is(5, h.why(1, 3, 0));
        is(5, h.why(2, 3, 6));
        is(0, h.why(3, 1, 0));
        is(0, h.why(2, 0, 0));
        is(5, fresh(0, 1, 2, 3, 4, 5, 6, 7, 8).why(1, 9, 0));
        // a ring of months ahead of the move's is none
        is(0, h.move(2, 0, 3));
        is(5, h.why(1, 2, 2));
        is(0, h.why(1, 2, 3));
        // a ring of a later month alone: 5 will be under 4 from month 6 on
        is(0, h.move(5, 4, 6));
        is(5, h.why(4, 5, 0));
        is(5, h.why(4, 5, 5));
        is(5, h.why(4, 5, 6));
        // unless a later move of his own takes him away in time
        is(0, h.move(4, 1, 6));
        is(0, h.why(4, 5, 0));
        is(0, h.why(4, 5, 5));
        is(5, h.why(4, 5, 6));
        is(5, h.move(4, 5, 6));
        is(0, h.move(4, 5, 5));
        is(5, h.tree(4, 5, 0));
        is(1, h.tree(4, 6, 0));
        is(4, h.tree(5, 6, 0));
    }

    @Holds(in = "Terms 2", says = "6 he has 12 MOVES, none of that month.")
    static void reasonSix() {
        CommissionHouse h = twelveMoves();
        is(6, h.why(3, 2, 12));
        is(6, h.why(3, 0, 12));
        is(0, h.why(3, 0, 11));
        is(0, h.why(3, 0, 6));
        is(0, h.move(3, 0, 11));
        is(12, h.seller(3, 2));
        is(6, h.why(3, 2, 12));
        // another one's move of that month does not help him
        is(0, h.move(2, 1, 12));
        is(4, h.join(0));
        is(0, h.move(4, 1, 12));
        is(6, h.why(3, 2, 12));
        is(6, h.move(3, 2, 12));
        // nor does the last move of one who has as many
        h = fresh(0, 0, 0, 0);
        for (int month = 0; month <= 12; month++) {
            pass(h, month == 7 ? 6 : 0);
            if (month != 12) {
                is(0, h.move(3, 2 - month % 2, month));
            }
            if (month != 11) {
                is(0, h.move(4, month == 12 ? 1 : 2 - month % 2, month));
            }
        }
        is(6, h.why(4, 1, 11));
        is(6, h.why(3, 2, 12));
        // eleven are not too many
        h = fresh(0, 0, 0);
        for (int month = 0; month <= 10; month++) {
            is(0, h.move(3, 2 - month % 2, month));
            h.months(1);
        }
        is(11, h.seller(3, 2));
        is(0, h.why(3, 1, 11));
    }

    // Promises 6 to 9.

    @Holds(in = "Promise 6", says = "So many months go by, 1 to 12: NOW.")
    static void monthsGoBy() {
        CommissionHouse h = new CommissionHouse();
        is(1, h.months(1));
        is(13, h.months(12));
        is(15, h.months(2));
        is(15, h.books(0));
    }

    @Holds(in = "Promise 6", says = "NONE, and none goes by: another n, or NOW would be above 99.")
    static void monthsRefused() {
        refused(NONE, h -> h.months(0), h -> h.months(13), h -> h.months(-1), h -> h.months(256), h -> h.months(MAX),
            h -> h.months(MIN), h -> h.months(MAX - 1));
        CommissionHouse h = pass(new CommissionHouse(), 88);
        is(NONE, h.months(12));
        is(88, h.books(0));
        is(98, h.months(10));
        is(NONE, h.months(2));
        is(99, h.months(1));
        is(NONE, h.months(1));
        is(NONE, h.months(12));
        is(99, h.books(0));
        is(99, pass(new CommissionHouse(), 87).months(12));
    }

    @Holds(in = "Promise 7", says = "A SELLER joins under a SPONSOR: his number.")
    static void joins() {
        CommissionHouse h = new CommissionHouse();
        is(1, h.join(0));
        is(2, h.join(1));
        is(3, h.join(0));
        is(1, h.tree(2, 0, 0));
        is(0, h.tree(3, 0, 0));
    }

    @Holds(in = "Promise 7", says = "NONE: there is no such SPONSOR,")
    static void joinUnderNobody() {
        refused(NONE, h -> h.join(-1), h -> h.join(5), h -> h.join(10), h -> h.join(256), h -> h.join(MAX), h -> h.join(MIN));
        is(NONE, new CommissionHouse().join(1));
    }

    @Holds(in = "Promise 7", says = "he has QUIT,")
    static void joinUnderOneWhoQuit() {
        refused(NONE, h -> h.join(4));
        CommissionHouse h = fresh(0, 0);
        h.quit(1);
        is(NONE, h.join(1));
        is(3, h.join(2));
    }

    @Holds(in = "Promise 7", says = "or there are 10 SELLERS.")
    static void joinAnEleventh() {
        CommissionHouse h = fresh(0, 0, 0, 0, 0, 0, 0, 0);
        is(9, h.join(8));
        is(NONE, h.join(0));
        is(NONE, h.join(9));
        // one who quits makes no room
        h.quit(5);
        is(NONE, h.join(0));
        is(10, h.books(1));
    }

    @Holds(in = "Promise 8", says = "A MOVE of a SELLER to another SPONSOR from a month on: 0.")
    static void moves() {
        CommissionHouse h = pass(fresh(0, 0), 2);
        is(0, h.move(2, 1, 2));
        is(0, h.move(2, 0, 8));
        is(0, h.tree(2, 1, 0));
        is(1, h.tree(2, 2, 0));
        is(1, h.tree(2, 7, 0));
        is(0, h.tree(2, 8, 0));
    }

    @Holds(in = "Promise 8", says = "Else the REASON why it can't be.")
    static void movesRefused() {
        refused(1, h -> h.move(0, 1, 1), h -> h.move(5, 1, 1), h -> h.move(1, -1, 1), h -> h.move(MIN, MAX, 1));
        refused(2, h -> h.move(1, 3, 0), h -> h.move(1, 3, 8), h -> h.move(1, 3, MAX), h -> h.move(1, 3, MIN));
        refused(3, h -> h.move(1, 4, 1), h -> h.move(4, 1, 1));
        refused(4, h -> h.move(1, 0, 1), h -> h.move(3, 1, 1), h -> h.move(3, 0, 2));
        refused(5, h -> h.move(1, 1, 1), h -> h.move(1, 2, 7), h -> h.move(1, 3, 1));
        refusedIn(TreeEdgesTest::twelveMoves, 6, h -> h.move(3, 0, 12), h -> h.move(3, 2, 12));
    }

    @Holds(in = "Promise 9", says = "A SELLER QUITS: what is FORFEITED by it.")
    static void quits() {
        CommissionHouse h = fresh(0, 1);
        h.sell(1, 100, 0);
        h.sell(2, 1000, 0);
        h.months(1);
        // of a pay of 100, by 3 months
        is(67, h.quit(1));
        is(1, h.seller(1, 1));
        is(67, h.seller(1, 7));
        is(0, h.quit(2));
        is(0b110, h.books(15));
    }

    @Holds(in = "Promise 9", says = "NONE: there is none such, he has QUIT, or it is SELLER 0.")
    static void quitRefused() {
        refused(NONE, h -> h.quit(-1), h -> h.quit(5), h -> h.quit(10), h -> h.quit(MAX), h -> h.quit(MIN));
        refused(NONE, h -> h.quit(4));
        refused(NONE, h -> h.quit(0));
        // the month stays that of the first time
        CommissionHouse h = fresh(0);
        h.quit(1);
        h.months(1);
        is(NONE, h.quit(1));
        is(0, h.seller(1, 1));
        is(1, h.journal(1, NONE, 0));
    }

    // Promise 15.

    @Holds(in = "Promise 15", says = "Of a SELLER at a month, what 0: SPONSOR (NONE),")
    static void treeSponsor() {
        CommissionHouse h = fresh(0, 1);
        is(NONE, h.tree(0, 0, 0));
        is(0, h.tree(1, 0, 0));
        is(1, h.tree(2, 6, 0));
    }

    @Holds(in = "Promise 15", says = "1: how many are in the UPLINE,")
    static void treeUpline() {
        CommissionHouse h = fresh(0, 1);
        is(0, h.tree(0, 0, 1));
        is(1, h.tree(1, 0, 1));
        is(2, h.tree(2, 0, 1));
    }

    @Holds(in = "Promise 15", says = "2, 3: BELOW, DIRECT (bits),")
    static void treeBelow() {
        CommissionHouse h = fresh(0, 1, 0, 2);
        is(0b11111, h.tree(0, 0, 2));
        is(0b10110, h.tree(1, 0, 2));
        is(0b10000, h.tree(4, 0, 2));
        is(0b01010, h.tree(0, 0, 3));
        is(0b00100, h.tree(1, 0, 3));
        is(0, h.tree(4, 0, 3));
    }

    @Holds(in = "Promise 15", says = "4: OWN, 5: VOLUME, 6: GROUP, 7: 1 if he is ACTIVE, else 0, 8: RANK,")
    static void treeNumbers() {
        CommissionHouse h = fresh(0);
        h.sell(0, 40, 0);
        h.sell(1, 900, 0);
        h.months(1);
        h.sell(0, 99, 1);
        h.sell(1, 100, 1);
        int[][] zero = {{40, 40, 940, 0, 0}, {99, 139, 1139, 0, 1}};
        int[][] one = {{900, 900, 900, 1, 0}, {100, 1000, 1000, 1, 0}};
        for (int month = 0; month <= 1; month++) {
            for (int what = 4; what <= 8; what++) {
                is(zero[month][what - 4], h.tree(0, month, what));
                is(one[month][what - 4], h.tree(1, month, what));
            }
        }
    }

    @Holds(in = "Promise 15", says = "9: how many generations are BELOW him (0: he alone),")
    static void treeGenerations() {
        CommissionHouse h = fresh(0, 0, 0, 1, 4);
        is(3, h.tree(0, 0, 9));
        is(2, h.tree(1, 0, 9));
        is(0, h.tree(2, 0, 9));
        is(0, h.tree(5, 0, 9));
        h = fresh(0, 1, 2, 3, 4, 5, 6, 7, 8);
        is(9, h.tree(0, 0, 9));
        is(0, h.tree(9, 0, 9));
        is(0, h.move(9, 0, 2));
        is(9, h.tree(0, 1, 9));
        is(8, h.tree(0, 2, 9));
        h = crew(pass(fresh(0), 3), 1);
        is(1, h.tree(0, 2, 9));
        is(2, h.tree(0, 3, 9));
    }

    @Holds(in = "Promise 15", says = "10: SELLERS (bits) to whom he could be moved from that month on.")
    static void treeOpenSponsors() {
        CommissionHouse h = fresh(0, 0, 1, 3);
        is(0b00100, h.tree(1, 0, 10));
        is(0b11010, h.tree(2, 0, 10));
        is(0b00101, h.tree(3, 0, 10));
        is(0b00111, h.tree(4, 6, 10));
        is(0, h.tree(0, 0, 10));
        h.quit(2);
        is(0b00001, h.tree(3, 0, 10));
        is(0, h.tree(2, 0, 10));
        h.months(1);
        // from a month that is gone nobody can be moved
        is(0, h.tree(3, 0, 10));
        is(0b00001, h.tree(3, 7, 10));
        h = twelveMoves();
        is(0, h.tree(3, 12, 10));
        is(0b101, h.tree(3, 11, 10));
        for (int seller = 0; seller < 4; seller++) {
            for (int to = 0; to < 4; to++) {
                is(h.why(seller, to, 9) == 0 ? 1 : 0, h.tree(seller, 9, 10) >> to & 1);
            }
        }
    }

    @Holds(in = "Promise 15", says = "-2: there is none such,")
    static void treeOfNobody() {
        CommissionHouse h = fresh(0);
        for (int what = 0; what <= 10; what++) {
            for (int none : new int[] {-1, 2, 10, 256, MIN, MAX}) {
                is(-2, h.tree(none, 0, what));
            }
        }
    }

    @Holds(in = "Promise 15", says = "he had not JOINED by then,")
    static void treeAheadOfHisJoining() {
        CommissionHouse h = crew(pass(new CommissionHouse(), 3), 0);
        for (int what = 0; what <= 10; what++) {
            is(-2, h.tree(1, 2, what));
            is(false, h.tree(1, 3, what) == -2);
            is(false, h.tree(0, 2, what) == -2);
        }
    }

    @Holds(in = "Promise 15", says = "the month is not 0 to NOW (of what 0 to 3, 9, 10: to NOW and 6; 99 at most),")
    static void treeOfAnotherMonth() {
        CommissionHouse h = pass(fresh(0), 2);
        for (int what = 0; what <= 10; what++) {
            int last = what >= 4 && what <= 8 ? 2 : 8;
            is(false, h.tree(1, 0, what) == -2);
            is(false, h.tree(1, last, what) == -2);
            is(-2, h.tree(1, last + 1, what));
            is(-2, h.tree(1, -1, what));
            is(-2, h.tree(1, MIN, what));
            is(-2, h.tree(1, MAX, what));
        }
        pass(h, 94);
        for (int what : new int[] {0, 1, 2, 3, 9, 10}) {
            is(false, h.tree(1, 99, what) == -2);
            is(-2, h.tree(1, 100, what));
            is(-2, h.tree(1, 102, what));
        }
        for (int what = 4; what <= 8; what++) {
            is(false, h.tree(1, 96, what) == -2);
            is(-2, h.tree(1, 97, what));
        }
    }

    @Holds(in = "Promise 15", says = "or for another what.")
    static void treeOfAnotherWhat() {
        CommissionHouse h = fresh(0);
        for (int what : new int[] {-1, 11, 256, 264, MIN, MAX}) {
            is(-2, h.tree(1, 0, what));
        }
    }

    // Promises 16 to 18.

    @Holds(in = "Promise 16", says = "Of the k-th MOVE of a SELLER, by month, what 0: the month, 1: to whom.")
    static void movedByMonth() {
        CommissionHouse h = fresh(0, 0, 0);
        h.move(3, 2, 5);
        h.move(3, 1, 2);
        h.move(3, 1, 6);
        h.move(3, 2, 0);
        int[][] moves = {{0, 2}, {2, 1}, {5, 2}, {6, 1}};
        for (int k = 0; k < 4; k++) {
            is(moves[k][0], h.moved(3, k, 0));
            is(moves[k][1], h.moved(3, k, 1));
        }
        // told ahead of others, between them, behind them, and anew
        h = fresh(0, 0, 0, 0, 0, 0);
        int[] order = {3, 6, 1, 5, 2, 4, 0};
        for (int month : order) {
            is(0, h.move(6, 1 + (month + 2) % 5, month));
        }
        for (int k = 0; k <= 6; k++) {
            is(k, h.moved(6, k, 0));
            is(1 + (k + 2) % 5, h.moved(6, k, 1));
        }
        is(0, h.move(6, 0, 3));
        is(7, h.seller(6, 2));
        is(3, h.moved(6, 3, 0));
        is(0, h.moved(6, 3, 1));
        h = twelveMoves();
        is(0, h.moved(3, 0, 0));
        is(11, h.moved(3, 11, 0));
        is(1, h.moved(3, 11, 1));
    }

    @Holds(in = "Promise 16", says = "-2: not so many, there is none such, or for another what.")
    static void movedRefused() {
        CommissionHouse h = twelveMoves();
        for (int k : new int[] {-1, 12, 13, 256, MIN, MAX}) {
            is(-2, h.moved(3, k, 0));
            is(-2, h.moved(3, k, 1));
        }
        is(-2, h.moved(0, 0, 0));
        is(-2, h.moved(2, 0, 0));
        for (int none : new int[] {-1, 4, 10, MIN, MAX}) {
            is(-2, h.moved(none, 0, 0));
        }
        for (int what : new int[] {-1, 2, 256, MIN, MAX}) {
            is(-2, h.moved(3, 0, what));
        }
    }

    @Holds(in = "Promise 17", says = "The REASON why a MOVE can't be, 0: it can.")
    static void whyMovesNothing() {
        refused(0, h -> h.why(3, 2, 1), h -> h.why(2, 0, 7));
        refused(1, h -> h.why(0, 2, 1), h -> h.why(MAX, MIN, 1));
        refused(2, h -> h.why(3, 2, 0), h -> h.why(3, 2, 8));
        refused(3, h -> h.why(3, 4, 1));
        refused(4, h -> h.why(3, 1, 1));
        refused(5, h -> h.why(1, 2, 1));
        refusedIn(TreeEdgesTest::twelveMoves, 6, h -> h.why(3, 2, 12));
    }

    @Holds(in = "Promise 18", says = "The first one that both have in the UPLINE at a month, or are (of those up from the first).")
    static void common() {
        CommissionHouse h = fresh(0, 1, 1, 2);
        is(1, h.common(4, 3, 0));
        is(1, h.common(3, 4, 0));
        is(2, h.common(4, 2, 0));
        is(2, h.common(2, 4, 0));
        is(4, h.common(4, 4, 0));
        is(0, h.common(0, 4, 0));
        is(0, h.common(4, 0, 0));
        is(0, h.common(0, 0, 0));
        is(0, h.move(2, 0, 3));
        is(1, h.common(4, 3, 2));
        is(0, h.common(4, 3, 3));
        // one who has quit is still there
        h.quit(1);
        is(1, h.common(4, 3, 2));
        // as far up as ten can go
        h = fresh(0, 1, 2, 3, 4, 5, 6, 7, 8);
        is(0, h.common(9, 0, 0));
        is(0, h.common(0, 9, 0));
        is(1, h.common(9, 1, 0));
    }

    @Holds(in = "Promise 18", says = "NONE: one of both is not there, had not JOINED by then, or the month is not 0 to NOW and 6, 99 at most.")
    static void commonRefused() {
        CommissionHouse h = crew(pass(fresh(0), 2), 1);
        for (int none : new int[] {-1, 3, 10, MIN, MAX}) {
            is(NONE, h.common(none, 1, 2));
            is(NONE, h.common(1, none, 2));
        }
        is(NONE, h.common(2, 1, 1));
        is(NONE, h.common(1, 2, 1));
        is(1, h.common(1, 2, 2));
        is(0, h.common(0, 1, 0));
        is(NONE, h.common(0, 1, -1));
        is(NONE, h.common(0, 0, MIN));
        is(0, h.common(0, 1, 8));
        is(NONE, h.common(0, 1, 9));
        is(NONE, h.common(0, 1, MAX));
        pass(h, 94);
        is(0, h.common(0, 1, 99));
        is(NONE, h.common(0, 1, 100));
        is(NONE, h.common(0, 1, 102));
    }
}
