import java.lang.management.ManagementFactory;

/** One object and its 512 calls must stay far below what a run has room for. */
public final class RoomTest {
    private static final Checks CHECKS = new Checks();

    private RoomTest() {
    }

    public static void main(String[] args) {
        if (!(ManagementFactory.getThreadMXBean() instanceof com.sun.management.ThreadMXBean counter)) {
            System.out.println("room: this machine does not count what is made");
            return;
        }
        long sum = run(0);
        long before = counter.getThreadAllocatedBytes(Thread.currentThread().getId());
        sum += run(1);
        long made = counter.getThreadAllocatedBytes(Thread.currentThread().getId()) - before;
        CHECKS.about("room");
        CHECKS.due("bytes made by a run of 512 calls stay below 200000: " + made, true, made < 200000);
        CHECKS.due("the calls were made", true, sum != 0);
        CHECKS.close("room");
    }

    /** Every call of the face, over and over. */
    private static long run(int shift) {
        CommissionHouse h = new CommissionHouse();
        long sum = 0;
        for (int n = 0; n < 12; n++) {
            sum += h.feed(0x71756f74, 0x6120373b, 0x63617020, 0x353b7665, 0x73742032) + h.end(14) + h.plan();
            sum += h.join(0) + h.join(1) + h.join(2) + h.sell(0, 900, 0) + h.sell(1, 700 + shift, 0) + h.sell(3, 500, 0);
            sum += h.move(3, 1, 2) + h.months(2) + h.draw(0, 1) + h.back(1, 3) + h.quit(2) + h.fault(0) + h.rule(11);
            sum += h.seller(0, 8) + h.tree(1, 2, 10) + h.moved(3, 0, 1) + h.why(3, 0, 3) + h.common(1, 3, 1);
            sum += h.sale(1, 9) + h.sale(1, 10) + h.pay(1, 1, 8) + h.quote(3, 50, 1, 2) + h.repaid(1, 1, 2);
            sum += h.gap(0, 1) + h.lift(0, 2, true) + h.place(0, 90, false) + h.due(0, 5) + h.ready(0, 9);
            sum += h.journal(0, 0, 2) + h.books(13) + h.books(17) + (h.image(n % 3) ? 1 : 0) + (h.again(n % 2) ? 1 : 0);
        }
        return sum;
    }
}
