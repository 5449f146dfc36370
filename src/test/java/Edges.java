import java.lang.reflect.InvocationTargetException;
import java.lang.reflect.Method;
import java.util.Arrays;
import java.util.Comparator;
import java.util.function.Supplier;
import java.util.function.ToIntFunction;

/**
 * What the tests of boundary cases share. Each of their methods holds the words of the document
 * that its Holds names; SentencesTest sees to it that no words are without a test.
 */
abstract class Edges {
    static final Checks CHECKS = new Checks();
    static final int NONE = -1;
    static final int MIN = Integer.MIN_VALUE;
    static final int MAX = Integer.MAX_VALUE;

    /** Runs every test of a class; that one asks nothing, or ends by something thrown, is a wrong answer, too. */
    static void run(Class<?> tests, String name) throws ReflectiveOperationException {
        Method[] methods = tests.getDeclaredMethods();
        Arrays.sort(methods, Comparator.comparing(Method::getName));
        for (Method test : methods) {
            Holds holds = test.getAnnotation(Holds.class);
            if (holds != null) {
                CHECKS.about(test.getName() + " (" + holds.in() + ": '" + holds.says() + "')");
                int before = CHECKS.asked();
                try {
                    test.invoke(null);
                } catch (InvocationTargetException thrown) {
                    CHECKS.due("all is answered", "nothing is thrown", thrown.getCause().toString());
                }
                CHECKS.due("something is asked", true, CHECKS.asked() > before);
            }
        }
        CHECKS.close(name);
    }

    private static String line() {
        return StackWalker.getInstance().walk(frames -> frames
            .filter(frame -> !frame.getClassName().equals("Edges"))
            .findFirst().map(frame -> frame.getFileName() + ":" + frame.getLineNumber()).orElse("?"));
    }

    static void is(long want, long got) {
        CHECKS.due(want == got ? "" : line(), want, got);
    }

    static void is(boolean want, boolean got) {
        CHECKS.due(want == got ? "" : line(), want, got);
    }

    static void is(String want, String got) {
        CHECKS.due(want.equals(got) ? "" : line(), want, got);
    }

    /** Feeds just the text: the blanks that fill up its last twenty bytes are cut. */
    static void tell(CommissionHouse h, String text) {
        int length = h.end(0);
        for (int[] f : PlanTexts.feeds(text)) {
            length = h.feed(f[0], f[1], f[2], f[3], f[4]);
        }
        is(text.length(), h.end(length - (20 - text.length() % 20) % 20));
    }

    static CommissionHouse planned(String text) {
        CommissionHouse h = new CommissionHouse();
        tell(h, text);
        is(0, h.plan());
        return h;
    }

    /** Seller i + 1 joins under the i-th sponsor. */
    static CommissionHouse crew(CommissionHouse h, int... sponsors) {
        for (int sponsor : sponsors) {
            is(h.books(1), h.join(sponsor));
        }
        return h;
    }

    /** A new house of the first plan: seller i + 1 joins under the i-th sponsor. */
    static CommissionHouse fresh(int... sponsors) {
        return crew(new CommissionHouse(), sponsors);
    }

    /** Many months, for which one call is not enough. */
    static CommissionHouse pass(CommissionHouse h, int months) {
        int until = h.books(0) + months;
        for (int left = months; left > 0; left -= 12) {
            h.months(Math.min(12, left));
        }
        is(until, h.books(0));
        return h;
    }

    static void good(String text) {
        CommissionHouse h = new CommissionHouse();
        tell(h, text);
        is(0, h.plan());
        is(0, h.fault(0));
        is(NONE, h.fault(1));
    }

    /** The place of the fault is marked by a '^', which is no part of the text. */
    static void bad(int fault, String marked) {
        CommissionHouse h = new CommissionHouse();
        tell(h, marked.replace("^", ""));
        is(NONE, h.plan());
        is(fault, h.fault(0));
        is(marked.indexOf('^'), h.fault(1));
    }

    /** A house in which there is something of all kinds. */
    static CommissionHouse busy() {
        CommissionHouse h = crew(planned("vest 2;quota 10;rank 1 300 1;"), 0, 1, 1, 0);
        h.sell(0, 50, 0);
        h.sell(1, 60, 0);
        h.sell(2, 400, 0);
        h.move(3, 0, 2);
        h.months(1);
        h.draw(1, 5);
        h.sell(3, 70, 0);
        h.back(2, 25);
        h.quit(4);
        tell(h, "cap 5;");
        h.image(1);
        return h;
    }

    /** Calls that can't be answer so, and leave a busy house as it was. */
    @SafeVarargs
    static void refused(int answer, ToIntFunction<CommissionHouse>... calls) {
        refusedIn(Edges::busy, answer, calls);
    }

    @SafeVarargs
    static void refusedIn(Supplier<CommissionHouse> made, int answer, ToIntFunction<CommissionHouse>... calls) {
        CommissionHouse h = made.get();
        for (ToIntFunction<CommissionHouse> call : calls) {
            is(answer, call.applyAsInt(h));
        }
        is(digest(made.get()), digest(h));
    }

    /**
     * All that a house tells of itself. It ends by taking the tape, the one way to see what is on it.
     * Of a busy house it makes some 350 calls, so that one object is asked once: its 512 calls are all that is promised.
     */
    static String digest(CommissionHouse h) {
        StringBuilder told = new StringBuilder();
        for (int what = 0; what <= 45; what++) {
            told.append(what > 3 && what % 10 > 5 ? "" : h.rule(what) + " ");
        }
        for (int what = 0; what < 20; what++) {
            told.append(h.books(what)).append(' ');
        }
        int sellers = h.books(1);
        int sales = h.books(2);
        for (int seller = 0; seller < sellers; seller++) {
            digestSeller(h, seller, told);
        }
        for (int sale = 0; sale < sales; sale++) {
            digestSale(h, sale, told);
        }
        told.append("\n").append(h.fault(0)).append(' ').append(h.fault(1)).append(' ');
        told.append(h.feed(0x20202020, 0x20202020, 0x20202020, 0x20202020, 0x20202020)).append(' ').append(h.plan());
        for (int what = 0; what < 4; what++) {
            told.append(' ').append(h.rule(what));
        }
        return told.append(' ').append(h.fault(0)).append(' ').append(h.fault(1)).toString();
    }

    private static void digestSeller(CommissionHouse h, int seller, StringBuilder told) {
        told.append("\nseller ").append(seller).append(':');
        for (int what = 0; what < 12; what++) {
            told.append(' ').append(h.seller(seller, what));
        }
        int now = h.books(0);
        for (int what = 0; what <= 10; what++) {
            told.append(' ').append(h.tree(seller, now, what));
        }
        int moves = h.seller(seller, 2);
        for (int k = 0; k < moves; k++) {
            told.append(" move ").append(h.moved(seller, k, 0)).append(' ').append(h.moved(seller, k, 1));
        }
        int lines = h.journal(seller, NONE, 0);
        for (int k = 0; k < lines; k++) {
            told.append(" line");
            for (int what = 0; what < 4; what++) {
                told.append(' ').append(h.journal(seller, k, what));
            }
        }
    }

    private static void digestSale(CommissionHouse h, int sale, StringBuilder told) {
        told.append("\nsale ").append(sale).append(':');
        for (int what = 0; what < 11; what++) {
            told.append(' ').append(h.sale(sale, what));
        }
        int levels = h.sale(sale, 6);
        for (int level = 1; level <= levels; level++) {
            told.append(" level");
            for (int what = 0; what < 9; what++) {
                told.append(' ').append(h.pay(sale, level, what));
            }
        }
    }

    /** What the facts of a level are, from the first on. */
    static void pays(CommissionHouse h, int sale, int level, int... facts) {
        for (int what = 0; what < facts.length; what++) {
            is(facts[what], h.pay(sale, level, what));
        }
    }

    static void quotes(CommissionHouse h, int seller, int amount, int level, int... facts) {
        for (int what = 0; what < facts.length; what++) {
            is(facts[what], h.quote(seller, amount, level, what));
        }
    }

    /** A line of a journal: which, the month, how much, the sale. */
    static void line(CommissionHouse h, int seller, int k, int... facts) {
        for (int what = 0; what < facts.length; what++) {
            is(facts[what], h.journal(seller, k, what));
        }
    }
}
