import java.util.Arrays;

/** A commission house: a plan, sellers in a tree that moves, sales that pay up the branch. */
public final class CommissionHouse {
    /** There is none. */
    public static final int NONE = -1;

    private static final int NO_ANSWER = -2;
    private static final int NO_SELLER = -1000000;

    private static final int TAPE_ROOM = 600;
    private static final int FEED_BYTES = 20;
    private static final int LEVELS = 5;
    private static final int RANKS = 3;
    private static final int NODES = 8;
    private static final int SELLERS = 10;
    private static final int MOVES = 12;
    private static final int SALES = 40;
    private static final int LINES = 16;
    private static final int IMAGES = 3;
    private static final int LAST_MONTH = 99;
    private static final int MOVES_AHEAD = 6;
    private static final int SALES_BEHIND = 2;
    private static final int DUE_AHEAD = 12;
    private static final int MOST_AMOUNT = 9999;
    private static final int MOST_RATE = 20;

    // What the reader sees on the tape; those from FLAT on begin a form, those from MORE on join two.
    private static final int END = 0;
    private static final int STRANGE = 1;
    private static final int SEMICOLON = 2;
    private static final int NUMBER = 3;
    private static final int LEVEL = 4;
    private static final int RANK = 5;
    private static final int OPENS = 6;
    private static final int QUOTA = 7;
    private static final int CAP = 8;
    private static final int VEST = 9;
    private static final int WINDOW = 10;
    private static final int FLAT = 11;
    private static final int RANKED = 12;
    private static final int WIDE = 13;
    private static final int LOYAL = 14;
    private static final int MORE = 15;
    private static final int LESS = 16;
    private static final int SUM = 17;

    private static final int NO_TEXT = 1;
    private static final int BAD_NUMBER = 2;
    private static final int TOO_MANY_NODES = 3;

    // The facts that a level of a sale keeps, numbered as pay() asks for them.
    private static final int TAKER = 0;
    private static final int PERCENT = 1;
    private static final int PAID = 2;
    private static final int LOST = 3;
    private static final int CUT = 4;
    private static final int RANK_THEN = 5;
    private static final int STEP = 6;
    private static final int FACTS = 7;

    private static final int LINE_PAID = 0;
    private static final int LINE_TAKEN = 1;
    private static final int LINE_DRAWN = 2;
    private static final int LINE_QUIT = 3;
    private static final int LINE_FACTS = 4;

    private final State live = new State();
    private final State[] images = new State[IMAGES];
    private final Reader reader = new Reader();
    private final Scene scene = new Scene();
    private final Paying paying = new Paying();

    public CommissionHouse() {
    }

    public int feed(int a, int b, int c, int d, int e) {
        Tape tape = live.tape;
        if (tape.length + FEED_BYTES > TAPE_ROOM) {
            return NONE;
        }
        tape.append(a);
        tape.append(b);
        tape.append(c);
        tape.append(d);
        tape.append(e);
        return tape.length;
    }

    public int end(int n) {
        if (n < 0 || n > live.tape.length) {
            return NONE;
        }
        live.tape.length = n;
        return n;
    }

    public int plan() {
        reader.scan(live.tape);
        reader.read();
        live.tape.length = 0;
        live.fault = reader.faultKind();
        live.faultPlace = reader.faultPlace();
        if (live.fault != 0) {
            return NONE;
        }
        live.plan.copyFrom(reader.draft);
        live.beginAnew();
        return 0;
    }

    public int fault(int what) {
        switch (what) {
            case 0: return live.fault;
            case 1: return live.faultPlace;
            default: return NONE;
        }
    }

    public int months(int n) {
        if (n < 1 || n > 12 || live.now + n > LAST_MONTH) {
            return NONE;
        }
        live.now += n;
        return live.now;
    }

    public int join(int sponsor) {
        Crew crew = live.crew;
        if (!crew.works(sponsor) || crew.count >= SELLERS) {
            return NONE;
        }
        return crew.admit(sponsor, live.now);
    }

    public int move(int seller, int to, int month) {
        int reason = reasonAgainst(seller, to, month);
        if (reason == 0) {
            live.crew.putMove(seller, to, month);
        }
        return reason;
    }

    public int quit(int seller) {
        if (seller == 0 || !live.crew.works(seller)) {
            return NONE;
        }
        live.crew.left[seller] = live.now;
        int forfeited = live.notVested(seller);
        live.journals.write(seller, LINE_QUIT, live.now, forfeited, NONE);
        return forfeited;
    }

    public int sell(int seller, int amount, int month) {
        Sales sales = live.sales;
        if (!canSell(seller, amount) || sales.count >= SALES) {
            return NONE;
        }
        if (month < live.now - SALES_BEHIND || month > live.now || month < live.crew.joined[seller]) {
            return NONE;
        }
        int sale = sales.add(seller, amount, month, live.now);
        scene.look(live, month);
        paying.payUp(live, scene, seller, amount);
        sales.keep(sale, paying);
        for (int level = 1; level <= paying.taken; level++) {
            live.note(paying.fact(level, TAKER), LINE_PAID, paying.fact(level, PAID), sale);
        }
        return sale;
    }

    public int back(int sale, int percent) {
        Sales sales = live.sales;
        if (!sales.has(sale) || percent < 1 || percent > 100 - sales.back[sale]) {
            return NONE;
        }
        int before = sales.back[sale];
        sales.back[sale] = before + percent;
        int together = 0;
        for (int level = 1; level <= sales.taken[sale]; level++) {
            int paid = sales.fact(sale, level, PAID);
            int took = net(paid, before) - net(paid, before + percent);
            live.note(sales.fact(sale, level, TAKER), LINE_TAKEN, took, sale);
            together += took;
        }
        return together;
    }

    public int draw(int seller, int much) {
        if (!live.crew.has(seller) || much < 1 || much > live.balance(seller)) {
            return NONE;
        }
        live.crew.drawn[seller] += much;
        live.note(seller, LINE_DRAWN, much, NONE);
        return live.balance(seller);
    }

    public int rule(int what) {
        Plan plan = live.plan;
        switch (what) {
            case 0: return plan.quota;
            case 1: return plan.cap;
            case 2: return plan.vest;
            case 3: return plan.window;
            default: break;
        }
        if (what >= 10 && what <= 10 + RANKS) {
            return plan.goal[what - 10];
        }
        if (what >= 20 && what <= 20 + RANKS) {
            return plan.legs[what - 20];
        }
        if (what >= 30 && what <= 30 + RANKS) {
            return plan.opens[what - 30];
        }
        return what > 40 && what <= 40 + LEVELS ? plan.nodes[what - 40] : NO_ANSWER;
    }

    public int seller(int seller, int what) {
        Crew crew = live.crew;
        if (!crew.has(seller)) {
            return NO_SELLER;
        }
        switch (what) {
            case 0: return crew.joined[seller];
            case 1: return crew.left[seller];
            case 2: return crew.moves[seller];
            case 3: return live.earned(seller, live.now);
            case 4: return crew.drawn[seller];
            case 5: return live.balance(seller);
            case 6: return crew.hasLeft(seller) ? 0 : live.notVested(seller);
            case 7: return crew.hasLeft(seller) ? live.notVested(seller) : 0;
            case 8: return greatestRank(seller, false);
            case 9: return greatestRank(seller, true);
            case 10: return live.sales.countOf(seller);
            case 11: return live.exposed(seller);
            default: return NO_SELLER;
        }
    }

    public int tree(int seller, int month, int what) {
        if (!live.crew.has(seller) || what < 0 || what > 10) {
            return NO_ANSWER;
        }
        boolean ofShape = what <= 3 || what >= 9;
        if (month < live.crew.joined[seller] || month > (ofShape ? lastTreeMonth() : live.now)) {
            return NO_ANSWER;
        }
        if (what == 10) {
            return openSponsors(seller, month);
        }
        scene.look(live, month);
        switch (what) {
            case 0: return scene.parent[seller];
            case 1: return scene.uplineLength(seller);
            case 2: return scene.below[seller];
            case 3: return scene.direct[seller];
            case 4: return scene.own[seller];
            case 5: return scene.volume[seller];
            case 6: return scene.group[seller];
            case 7: return scene.active >> seller & 1;
            case 8: return scene.rank[seller];
            default: return scene.depth[seller];
        }
    }

    public int moved(int seller, int k, int what) {
        Crew crew = live.crew;
        if (!crew.has(seller) || k < 0 || k >= crew.moves[seller]) {
            return NO_ANSWER;
        }
        switch (what) {
            case 0: return crew.moveMonth[seller * MOVES + k];
            case 1: return crew.moveTo[seller * MOVES + k];
            default: return NO_ANSWER;
        }
    }

    public int why(int seller, int to, int month) {
        return reasonAgainst(seller, to, month);
    }

    public int common(int a, int b, int month) {
        Crew crew = live.crew;
        if (!crew.has(a) || !crew.has(b) || month > lastTreeMonth()) {
            return NONE;
        }
        if (month < crew.joined[a] || month < crew.joined[b]) {
            return NONE;
        }
        scene.look(live, month);
        int up = a;
        for (int step = 0; step < SELLERS && up != NONE; step++) {
            if ((scene.below[up] >> b & 1) == 1) {
                return up;
            }
            up = scene.parent[up];
        }
        return NONE;
    }

    public int sale(int sale, int what) {
        Sales sales = live.sales;
        if (!sales.has(sale)) {
            return NO_ANSWER;
        }
        switch (what) {
            case 0: return sales.who[sale];
            case 1: return sales.amount[sale];
            case 2: return sales.month[sale];
            case 3: return sales.told[sale];
            case 4: return sales.back[sale];
            case 5: return sales.netAmount(sale);
            case 6: return sales.taken[sale];
            case 7: return sales.together(sale, PAID);
            case 8: return sales.netPays(sale);
            case 9: return isStale(sale) ? 1 : 0;
            case 10: return live.debtorsWithout(sale);
            default: return NO_ANSWER;
        }
    }

    public int pay(int sale, int level, int what) {
        Sales sales = live.sales;
        if (!sales.has(sale) || level < 1 || level > sales.taken[sale]) {
            return NO_ANSWER;
        }
        if (what >= 0 && what < FACTS) {
            return sales.fact(sale, level, what);
        }
        switch (what) {
            case 7: return sales.netPay(sale, level);
            case 8: return live.vested(sale, level, live.now);
            default: return NO_ANSWER;
        }
    }

    public int quote(int seller, int amount, int level, int what) {
        if (!canSell(seller, amount)) {
            return NO_ANSWER;
        }
        scene.lookWithSale(live, seller, amount);
        paying.payUp(live, scene, seller, amount);
        return paying.answer(level, what);
    }

    public int repaid(int sale, int level, int what) {
        Sales sales = live.sales;
        if (!sales.has(sale)) {
            return NO_ANSWER;
        }
        scene.look(live, live.now);
        paying.payUp(live, scene, sales.who[sale], sales.netAmount(sale));
        return paying.answer(level, what);
    }

    public int gap(int seller, int rank) {
        if (!live.crew.works(seller) || rank < 1 || rank > RANKS) {
            return NONE;
        }
        scene.look(live, live.now);
        Plan plan = live.plan;
        int least = NONE;
        for (int r = rank; r <= RANKS; r++) {
            int lacks = Math.max(0, plan.goal[r] - scene.group[seller]);
            if (scene.activeLegs(seller) >= plan.legs[r] && (least == NONE || lacks < least)) {
                least = lacks;
            }
        }
        return least;
    }

    public int lift(int seller, int rank, boolean which) {
        if (!live.crew.has(seller) || rank < 1 || rank > RANKS) {
            return NONE;
        }
        scene.look(live, live.now);
        int set = leastLift(seller, rank);
        return which || set == NONE ? set : Integer.bitCount(set);
    }

    public int place(int seller, int amount, boolean much) {
        if (!live.crew.has(seller) || amount < 1 || amount > MOST_AMOUNT) {
            return NONE;
        }
        int best = NONE;
        int most = NONE;
        for (int sponsor = 0; sponsor < live.crew.count; sponsor++) {
            int paid = live.crew.hasLeft(sponsor) ? NONE : paidByNewcomer(seller, sponsor, amount);
            if (paid > most) {
                most = paid;
                best = sponsor;
            }
        }
        return much ? most : best;
    }

    public int due(int seller, int month) {
        if (!live.crew.has(seller) || month < live.now || month > live.now + DUE_AHEAD) {
            return NONE;
        }
        return live.earned(seller, month);
    }

    public int ready(int seller, int much) {
        if (!live.crew.has(seller)) {
            return NONE;
        }
        // No pay vests for longer than the months looked at, so what is not ready in them never is.
        for (int month = live.now; month <= live.now + DUE_AHEAD; month++) {
            if (live.earned(seller, month) - live.crew.drawn[seller] >= much) {
                return month;
            }
        }
        return NONE;
    }

    public int journal(int seller, int k, int what) {
        if (!live.crew.has(seller)) {
            return NO_ANSWER;
        }
        if (k == NONE) {
            return what == 0 ? live.journals.size[seller] : NO_ANSWER;
        }
        if (k < 0 || k >= live.journals.size[seller] || what < 0 || what >= LINE_FACTS) {
            return NO_ANSWER;
        }
        return live.journals.fact(seller, k, what);
    }

    public int books(int what) {
        Sales sales = live.sales;
        switch (what) {
            case 0: return live.now;
            case 1: return live.crew.count;
            case 2: return sales.count;
            case 3: return sales.allAmounts();
            case 4: return sales.allNetAmounts();
            case 5: return sales.allTogether(PAID);
            case 6: return sales.allNetPays();
            case 7: return sales.allTogether(LOST);
            case 8: return sales.allTogether(CUT);
            case 9: return live.allVested();
            case 10: return live.allNotVested(false);
            case 11: return live.allNotVested(true);
            case 12: return live.crew.allDrawn();
            case 13: return live.allDebts();
            case 14: return live.debtorsWithout(NONE);
            case 15: return live.crew.leavers();
            case 16: return activeNow();
            case 17: return staleSales();
            case 18: return greatestNow(false);
            case 19: return greatestNow(true);
            default: return NO_ANSWER;
        }
    }

    public boolean image(int k) {
        if (k < 0 || k >= IMAGES) {
            return false;
        }
        if (images[k] == null) {
            images[k] = new State();
        }
        images[k].copyFrom(live);
        return true;
    }

    public boolean again(int k) {
        if (k < 0 || k >= IMAGES || images[k] == null) {
            return false;
        }
        live.copyFrom(images[k]);
        return true;
    }

    private static int net(int number, int back) {
        return number * (100 - back) / 100;
    }

    private int lastTreeMonth() {
        return Math.min(live.now + MOVES_AHEAD, LAST_MONTH);
    }

    private boolean canSell(int seller, int amount) {
        return live.crew.works(seller) && amount >= 1 && amount <= MOST_AMOUNT;
    }

    private int reasonAgainst(int seller, int to, int month) {
        Crew crew = live.crew;
        if (!crew.has(seller) || !crew.has(to) || seller == 0) {
            return 1;
        }
        if (month < live.now || month > lastTreeMonth()) {
            return 2;
        }
        if (crew.hasLeft(seller) || crew.hasLeft(to)) {
            return 3;
        }
        if (crew.sponsorAt(seller, month) == to) {
            return 4;
        }
        if (makesRing(seller, to, month)) {
            return 5;
        }
        return crew.moves[seller] >= MOVES && !crew.hasMoveOf(seller, month) ? 6 : 0;
    }

    private boolean makesRing(int seller, int to, int month) {
        Crew crew = live.crew;
        // Behind the last month that a move can have, nothing changes any more.
        for (int m = month; m <= lastTreeMonth(); m++) {
            // A later move of his own ends this one, and what comes then stands as it stood.
            if (m > month && crew.hasMoveOf(seller, m)) {
                return false;
            }
            if (crew.isUpFrom(to, seller, m)) {
                return true;
            }
        }
        return false;
    }

    private int openSponsors(int seller, int month) {
        int open = 0;
        for (int to = 0; to < live.crew.count; to++) {
            if (reasonAgainst(seller, to, month) == 0) {
                open |= 1 << to;
            }
        }
        return open;
    }

    private int greatestRank(int seller, boolean when) {
        int greatest = NONE;
        int first = NONE;
        for (int month = live.crew.joined[seller]; month <= live.now && greatest < RANKS; month++) {
            scene.look(live, month);
            if (scene.rank[seller] > greatest) {
                greatest = scene.rank[seller];
                first = month;
            }
        }
        return when ? first : greatest;
    }

    private int leastLift(int seller, int rank) {
        int idle = scene.below[seller] & ~scene.active & ~scene.left & ~(1 << seller);
        int best = NONE;
        int fewest = SELLERS + 1;
        for (int set = 0; set < 1 << SELLERS; set++) {
            if ((set & ~idle) == 0 && Integer.bitCount(set) < fewest && lifts(seller, rank, set)) {
                best = set;
                fewest = Integer.bitCount(set);
            }
        }
        return best;
    }

    private boolean lifts(int seller, int rank, int set) {
        int group = scene.group[seller];
        for (int other = 0; other < live.crew.count; other++) {
            if ((set >> other & 1) == 1) {
                group += live.plan.quota - scene.own[other];
            }
        }
        int legs = Integer.bitCount(scene.direct[seller] & (scene.active | set));
        return live.plan.rankFor(group, legs) >= rank;
    }

    private int paidByNewcomer(int seller, int sponsor, int amount) {
        scene.lookWithNewcomer(live, sponsor, amount);
        paying.payUp(live, scene, live.crew.count, amount);
        int paid = 0;
        for (int level = 1; level <= paying.taken; level++) {
            if (paying.fact(level, TAKER) == seller) {
                paid += paying.fact(level, PAID);
            }
        }
        return paid;
    }

    private boolean isStale(int sale) {
        scene.look(live, live.now);
        return staleInScene(sale);
    }

    private int staleSales() {
        scene.look(live, live.now);
        int stale = 0;
        for (int sale = 0; sale < live.sales.count; sale++) {
            stale += staleInScene(sale) ? 1 : 0;
        }
        return stale;
    }

    private boolean staleInScene(int sale) {
        Sales sales = live.sales;
        int level = 0;
        int up = scene.parent[sales.who[sale]];
        for (int step = 0; step < SELLERS && up != NONE && level < LEVELS; step++) {
            if (scene.isActive(up)) {
                level++;
                if (level > sales.taken[sale] || sales.fact(sale, level, TAKER) != up) {
                    return true;
                }
            }
            up = scene.parent[up];
        }
        return level != sales.taken[sale];
    }

    private int activeNow() {
        scene.look(live, live.now);
        return scene.active;
    }

    private int greatestNow(boolean who) {
        scene.look(live, live.now);
        int best = 0;
        for (int other = 1; other < live.crew.count; other++) {
            if (scene.rank[other] > scene.rank[best]) {
                best = other;
            }
        }
        return who ? best : scene.rank[best];
    }

    /** All that an image keeps. */
    private static final class State {
        final Tape tape = new Tape();
        final Plan plan = new Plan();
        final Crew crew = new Crew();
        final Sales sales = new Sales();
        final Journals journals = new Journals();
        private final int[] balances = new int[SELLERS];
        int fault = 0;
        int faultPlace = NONE;
        int now = 0;

        void copyFrom(State other) {
            tape.copyFrom(other.tape);
            plan.copyFrom(other.plan);
            crew.copyFrom(other.crew);
            sales.copyFrom(other.sales);
            journals.copyFrom(other.journals);
            fault = other.fault;
            faultPlace = other.faultPlace;
            now = other.now;
        }

        void beginAnew() {
            now = 0;
            crew.clear();
            sales.count = 0;
            journals.clear();
        }

        /** Writes only what is above 0, as all lines but that of a quit want it. */
        void note(int seller, int kind, int much, int sale) {
            if (much > 0) {
                journals.write(seller, kind, now, much, sale);
            }
        }

        int vested(int sale, int level, int month) {
            int net = sales.netPay(sale, level);
            if (plan.vest <= 0) {
                return net;
            }
            int taker = sales.fact(sale, level, TAKER);
            int until = crew.hasLeft(taker) ? crew.left[taker] : month;
            int gone = Math.max(0, Math.min(plan.vest, until - sales.told[sale]));
            return net * gone / plan.vest;
        }

        int earned(int seller, int month) {
            int earned = 0;
            for (int sale = 0; sale < sales.count; sale++) {
                int level = sales.levelOf(sale, seller);
                earned += level == NONE ? 0 : vested(sale, level, month);
            }
            return earned;
        }

        int balance(int seller) {
            return earned(seller, now) - crew.drawn[seller];
        }

        /** What is unvested or, of one who has quit, forfeited. */
        int notVested(int seller) {
            int rest = 0;
            for (int sale = 0; sale < sales.count; sale++) {
                int level = sales.levelOf(sale, seller);
                rest += level == NONE ? 0 : sales.netPay(sale, level) - vested(sale, level, now);
            }
            return rest;
        }

        int allNotVested(boolean ofLeavers) {
            int rest = 0;
            for (int seller = 0; seller < crew.count; seller++) {
                rest += crew.hasLeft(seller) == ofLeavers ? notVested(seller) : 0;
            }
            return rest;
        }

        int exposed(int seller) {
            int vested = 0;
            for (int sale = 0; sale < sales.count; sale++) {
                vested += sales.who[sale] == seller ? vestedOfSale(sale) : 0;
            }
            return vested;
        }

        int allVested() {
            int vested = 0;
            for (int sale = 0; sale < sales.count; sale++) {
                vested += vestedOfSale(sale);
            }
            return vested;
        }

        int allDebts() {
            fillBalances(NONE);
            int debts = 0;
            for (int seller = 0; seller < crew.count; seller++) {
                debts += Math.max(0, -balances[seller]);
            }
            return debts;
        }

        /** How many would have a debt, if nothing of a sale (NONE: of none) were paid. */
        int debtorsWithout(int returned) {
            fillBalances(returned);
            int debtors = 0;
            for (int seller = 0; seller < crew.count; seller++) {
                debtors += balances[seller] < 0 ? 1 : 0;
            }
            return debtors;
        }

        private int vestedOfSale(int sale) {
            int vested = 0;
            for (int level = 1; level <= sales.taken[sale]; level++) {
                vested += vested(sale, level, now);
            }
            return vested;
        }

        private void fillBalances(int returned) {
            for (int seller = 0; seller < crew.count; seller++) {
                balances[seller] = -crew.drawn[seller];
            }
            for (int sale = 0; sale < sales.count; sale++) {
                int levels = sale == returned ? 0 : sales.taken[sale];
                for (int level = 1; level <= levels; level++) {
                    balances[sales.fact(sale, level, TAKER)] += vested(sale, level, now);
                }
            }
        }
    }

    /** The bytes that wait to be taken as a plan's text. */
    private static final class Tape {
        final byte[] bytes = new byte[TAPE_ROOM];
        int length = 0;

        void append(int four) {
            for (int shift = 24; shift >= 0 && length < TAPE_ROOM; shift -= 8) {
                bytes[length] = (byte) (four >> shift);
                length++;
            }
        }

        void copyFrom(Tape other) {
            length = other.length;
            System.arraycopy(other.bytes, 0, bytes, 0, other.length);
        }
    }

    /** The rules; a form lies in its level's row as it was told, each node ahead of its parts. */
    private static final class Plan {
        int quota;
        int cap;
        int vest;
        int window;
        final int[] goal = new int[RANKS + 1];
        final int[] legs = new int[RANKS + 1];
        final int[] opens = new int[RANKS + 1];
        final int[] nodes = new int[LEVELS + 1];
        private final int[] kind = new int[(LEVELS + 1) * NODES];
        private final int[] span = new int[(LEVELS + 1) * NODES];
        private final int[] rate = new int[(LEVELS + 1) * NODES];
        private final int[] stack = new int[NODES];

        Plan() {
            setFirst();
        }

        void setFirst() {
            quota = 100;
            cap = 30;
            vest = 3;
            window = 2;
            for (int rank = 0; rank <= RANKS; rank++) {
                goal[rank] = 1000 * rank;
                legs[rank] = rank;
                opens[rank] = rank + 1;
            }
            for (int level = 1; level <= LEVELS; level++) {
                setNode(level, 0, FLAT, 0, level == 1 ? 10 : level == 2 ? 5 : 0);
                nodes[level] = 1;
            }
        }

        void setNode(int level, int place, int nodeKind, int months, int percent) {
            if (place < NODES) {
                int slot = level * NODES + place;
                kind[slot] = nodeKind;
                span[slot] = months;
                rate[slot] = percent;
            }
        }

        void copyFrom(Plan other) {
            quota = other.quota;
            cap = other.cap;
            vest = other.vest;
            window = other.window;
            System.arraycopy(other.goal, 0, goal, 0, goal.length);
            System.arraycopy(other.legs, 0, legs, 0, legs.length);
            System.arraycopy(other.opens, 0, opens, 0, opens.length);
            System.arraycopy(other.nodes, 0, nodes, 0, nodes.length);
            System.arraycopy(other.kind, 0, kind, 0, kind.length);
            System.arraycopy(other.span, 0, span, 0, span.length);
            System.arraycopy(other.rate, 0, rate, 0, rate.length);
        }

        int rankFor(int group, int activeLegs) {
            for (int rank = RANKS; rank >= 1; rank--) {
                if (group >= goal[rank] && activeLegs >= legs[rank]) {
                    return rank;
                }
            }
            return 0;
        }

        /** Goes from the last node to the first, so that the parts of a node lie ready on the stack. */
        int percentOf(int level, int rank, int directs, int monthsIn) {
            int depth = 0;
            for (int slot = level * NODES + nodes[level] - 1; slot >= level * NODES; slot--) {
                if (kind[slot] < MORE && depth < NODES) {
                    stack[depth] = leafPercent(slot, rank, directs, monthsIn);
                    depth++;
                } else if (depth >= 2) {
                    depth--;
                    stack[depth - 1] = joinedPercent(kind[slot], stack[depth], stack[depth - 1]);
                }
            }
            return stack[0];
        }

        private int leafPercent(int slot, int rank, int directs, int monthsIn) {
            switch (kind[slot]) {
                case RANKED: return rate[slot] * rank;
                case WIDE: return rate[slot] * Math.min(5, directs);
                case LOYAL: return monthsIn >= span[slot] ? rate[slot] : 0;
                default: return rate[slot];
            }
        }

        private static int joinedPercent(int joint, int one, int other) {
            switch (joint) {
                case MORE: return Math.max(one, other);
                case LESS: return Math.min(one, other);
                default: return Math.min(100, one + other);
            }
        }
    }

    /** Reads a plan's text into a draft, so that a text with a fault leaves the plan alone. */
    private static final class Reader {
        final Plan draft = new Plan();
        private final Tape text = new Tape();
        private final int[] tokens = new int[TAPE_ROOM + 1];
        private final int[] starts = new int[TAPE_ROOM + 1];
        private final int[] values = new int[TAPE_ROOM + 1];
        private int count = 0;
        private int at = 0;
        private int here = 0;
        private int brokenAt = NONE;
        private int slip = 0;
        private int slipAt = NONE;

        int faultKind() {
            return brokenAt != NONE ? NO_TEXT : slip;
        }

        int faultPlace() {
            return brokenAt != NONE ? brokenAt : slipAt;
        }

        /** Lays out the tokens, the end behind them as one more. */
        void scan(Tape tape) {
            text.copyFrom(tape);
            count = 0;
            at = 0;
            skipBlanks();
            while (at < text.length && count < TAPE_ROOM) {
                starts[count] = at;
                values[count] = 0;
                tokens[count] = isDigit() ? digits() : isLetter() ? letters() : sign();
                count++;
                skipBlanks();
            }
            starts[count] = at;
            tokens[count] = END;
        }

        void read() {
            here = 0;
            brokenAt = NONE;
            slip = 0;
            slipAt = NONE;
            draft.setFirst();
            for (int clause = 0; clause <= TAPE_ROOM && tokens[here] != END && brokenAt == NONE; clause++) {
                readClause();
            }
        }

        private void readClause() {
            int word = tokens[here];
            if (word < LEVEL || word > WINDOW) {
                breakOff();
                return;
            }
            goOn();
            switch (word) {
                case LEVEL: readLevel(); break;
                case RANK: readRank(); break;
                case OPENS: readOpens(); break;
                case QUOTA: draft.quota = number(0, MOST_AMOUNT); break;
                case CAP: draft.cap = number(0, 99); break;
                case VEST: draft.vest = number(0, 12); break;
                default: draft.window = number(1, 6); break;
            }
            if (tokens[here] == SEMICOLON) {
                goOn();
            } else {
                breakOff();
            }
        }

        private void readRank() {
            int rank = number(1, RANKS);
            draft.goal[rank] = number(0, MOST_AMOUNT);
            draft.legs[rank] = number(0, 4);
        }

        private void readOpens() {
            int rank = number(0, RANKS);
            draft.opens[rank] = number(0, LEVELS);
        }

        private void readLevel() {
            int level = number(1, LEVELS);
            int wanted = 1;
            int nodes = 0;
            for (int n = 0; n <= TAPE_ROOM && wanted > 0 && brokenAt == NONE; n++) {
                wanted += tokens[here] >= MORE ? 1 : -1;
                readNode(level, nodes);
                nodes++;
            }
            draft.nodes[level] = Math.min(nodes, NODES);
        }

        private void readNode(int level, int place) {
            int word = tokens[here];
            if (word < FLAT) {
                breakOff();
                return;
            }
            if (place >= NODES) {
                slipHere(TOO_MANY_NODES);
            }
            goOn();
            int months = word == LOYAL ? number(0, LAST_MONTH) : 0;
            int percent = word < MORE ? number(0, MOST_RATE) : 0;
            draft.setNode(level, place, word, months, percent);
        }

        /** A number out of its bounds is a slip, and stands for the least one, so that reading goes on safely. */
        private int number(int least, int most) {
            if (tokens[here] != NUMBER) {
                breakOff();
                return least;
            }
            int told = values[here];
            if (told < least || told > most) {
                slipHere(BAD_NUMBER);
                told = least;
            }
            goOn();
            return told;
        }

        private void goOn() {
            if (here < count) {
                here++;
            }
        }

        private void breakOff() {
            if (brokenAt == NONE) {
                brokenAt = starts[here];
            }
        }

        private void slipHere(int kind) {
            if (slip == 0) {
                slip = kind;
                slipAt = starts[here];
            }
        }

        private void skipBlanks() {
            while (at < text.length && (text.bytes[at] == 10 || text.bytes[at] == 32)) {
                at++;
            }
        }

        private int digits() {
            int start = at;
            while (at < text.length && isDigit()) {
                values[count] = at - start < 4 ? values[count] * 10 + text.bytes[at] - '0' : 0;
                at++;
            }
            return at - start <= 4 ? NUMBER : STRANGE;
        }

        private int letters() {
            int start = at;
            while (at < text.length && isLetter()) {
                at++;
            }
            return wordFrom(start);
        }

        private int sign() {
            int found = text.bytes[at] == ';' ? SEMICOLON : STRANGE;
            at++;
            return found;
        }

        private boolean isDigit() {
            return text.bytes[at] >= '0' && text.bytes[at] <= '9';
        }

        private boolean isLetter() {
            return text.bytes[at] >= 'a' && text.bytes[at] <= 'z';
        }

        private int wordFrom(int start) {
            return spells(start, "level") ? LEVEL
                : spells(start, "rank") ? RANK
                : spells(start, "opens") ? OPENS
                : spells(start, "quota") ? QUOTA
                : spells(start, "cap") ? CAP
                : spells(start, "vest") ? VEST
                : spells(start, "window") ? WINDOW
                : spells(start, "flat") ? FLAT
                : spells(start, "ranked") ? RANKED
                : spells(start, "wide") ? WIDE
                : spells(start, "loyal") ? LOYAL
                : spells(start, "more") ? MORE
                : spells(start, "less") ? LESS
                : spells(start, "sum") ? SUM
                : STRANGE;
        }

        private boolean spells(int start, String word) {
            if (at - start != word.length()) {
                return false;
            }
            for (int i = 0; i < word.length(); i++) {
                if (text.bytes[start + i] != word.charAt(i)) {
                    return false;
                }
            }
            return true;
        }
    }

    /** The sellers: when they came and went, and who sponsors them from which month on. */
    private static final class Crew {
        int count = 1;
        final int[] joined = new int[SELLERS];
        final int[] left = new int[SELLERS];
        final int[] drawn = new int[SELLERS];
        final int[] moves = new int[SELLERS];
        final int[] moveMonth = new int[SELLERS * MOVES];
        final int[] moveTo = new int[SELLERS * MOVES];
        private final int[] firstSponsor = new int[SELLERS];

        Crew() {
            clear();
        }

        void clear() {
            count = 0;
            admit(NONE, 0);
        }

        int admit(int sponsor, int month) {
            int seller = count;
            if (seller >= SELLERS) {
                return NONE;
            }
            joined[seller] = month;
            left[seller] = NONE;
            drawn[seller] = 0;
            moves[seller] = 0;
            firstSponsor[seller] = sponsor;
            count++;
            return seller;
        }

        void copyFrom(Crew other) {
            count = other.count;
            System.arraycopy(other.joined, 0, joined, 0, count);
            System.arraycopy(other.left, 0, left, 0, count);
            System.arraycopy(other.drawn, 0, drawn, 0, count);
            System.arraycopy(other.moves, 0, moves, 0, count);
            System.arraycopy(other.moveMonth, 0, moveMonth, 0, count * MOVES);
            System.arraycopy(other.moveTo, 0, moveTo, 0, count * MOVES);
            System.arraycopy(other.firstSponsor, 0, firstSponsor, 0, count);
        }

        boolean has(int seller) {
            return seller >= 0 && seller < count;
        }

        boolean hasLeft(int seller) {
            return left[seller] != NONE;
        }

        boolean works(int seller) {
            return has(seller) && !hasLeft(seller);
        }

        int leavers() {
            int bits = 0;
            for (int seller = 0; seller < count; seller++) {
                bits |= hasLeft(seller) ? 1 << seller : 0;
            }
            return bits;
        }

        int allDrawn() {
            int together = 0;
            for (int seller = 0; seller < count; seller++) {
                together += drawn[seller];
            }
            return together;
        }

        int sponsorAt(int seller, int month) {
            int sponsor = firstSponsor[seller];
            for (int k = 0; k < moves[seller] && moveMonth[seller * MOVES + k] <= month; k++) {
                sponsor = moveTo[seller * MOVES + k];
            }
            return sponsor;
        }

        /** Whether one meets an other on his way up, himself the first. */
        boolean isUpFrom(int one, int other, int month) {
            int up = one;
            for (int step = 0; step < SELLERS && up != NONE; step++) {
                if (up == other) {
                    return true;
                }
                up = sponsorAt(up, month);
            }
            return false;
        }

        boolean hasMoveOf(int seller, int month) {
            for (int k = 0; k < moves[seller]; k++) {
                if (moveMonth[seller * MOVES + k] == month) {
                    return true;
                }
            }
            return false;
        }

        /** Keeps the moves by month, one a month. */
        void putMove(int seller, int to, int month) {
            int row = seller * MOVES;
            int k = 0;
            while (k < moves[seller] && moveMonth[row + k] < month) {
                k++;
            }
            boolean told = k < moves[seller] && moveMonth[row + k] == month;
            if (!told) {
                if (moves[seller] >= MOVES) {
                    return;
                }
                for (int i = moves[seller]; i > k; i--) {
                    moveMonth[row + i] = moveMonth[row + i - 1];
                    moveTo[row + i] = moveTo[row + i - 1];
                }
                moves[seller]++;
            }
            moveMonth[row + k] = month;
            moveTo[row + k] = to;
        }
    }

    /** The sales, and for each level of each what it was paid by. */
    private static final class Sales {
        int count = 0;
        final int[] who = new int[SALES];
        final int[] amount = new int[SALES];
        final int[] month = new int[SALES];
        final int[] told = new int[SALES];
        final int[] back = new int[SALES];
        final int[] taken = new int[SALES];
        private final int[] facts = new int[SALES * LEVELS * FACTS];

        int add(int seller, int much, int ofMonth, int now) {
            int sale = count;
            if (sale >= SALES) {
                return NONE;
            }
            who[sale] = seller;
            amount[sale] = much;
            month[sale] = ofMonth;
            told[sale] = now;
            back[sale] = 0;
            taken[sale] = 0;
            count++;
            return sale;
        }

        void keep(int sale, Paying paying) {
            taken[sale] = paying.taken;
            System.arraycopy(paying.facts, 0, facts, sale * LEVELS * FACTS, paying.taken * FACTS);
        }

        void copyFrom(Sales other) {
            count = other.count;
            System.arraycopy(other.who, 0, who, 0, count);
            System.arraycopy(other.amount, 0, amount, 0, count);
            System.arraycopy(other.month, 0, month, 0, count);
            System.arraycopy(other.told, 0, told, 0, count);
            System.arraycopy(other.back, 0, back, 0, count);
            System.arraycopy(other.taken, 0, taken, 0, count);
            System.arraycopy(other.facts, 0, facts, 0, count * LEVELS * FACTS);
        }

        boolean has(int sale) {
            return sale >= 0 && sale < count;
        }

        int fact(int sale, int level, int what) {
            return facts[(sale * LEVELS + level - 1) * FACTS + what];
        }

        int netAmount(int sale) {
            return net(amount[sale], back[sale]);
        }

        int netPay(int sale, int level) {
            return net(fact(sale, level, PAID), back[sale]);
        }

        /** The level that a seller took of a sale: one at most, for none is twice in an upline. */
        int levelOf(int sale, int seller) {
            for (int level = 1; level <= taken[sale]; level++) {
                if (fact(sale, level, TAKER) == seller) {
                    return level;
                }
            }
            return NONE;
        }

        int countOf(int seller) {
            int sold = 0;
            for (int sale = 0; sale < count; sale++) {
                sold += who[sale] == seller ? 1 : 0;
            }
            return sold;
        }

        int together(int sale, int what) {
            int together = 0;
            for (int level = 1; level <= taken[sale]; level++) {
                together += fact(sale, level, what);
            }
            return together;
        }

        int netPays(int sale) {
            int together = 0;
            for (int level = 1; level <= taken[sale]; level++) {
                together += netPay(sale, level);
            }
            return together;
        }

        int allAmounts() {
            int together = 0;
            for (int sale = 0; sale < count; sale++) {
                together += amount[sale];
            }
            return together;
        }

        int allNetAmounts() {
            int together = 0;
            for (int sale = 0; sale < count; sale++) {
                together += netAmount(sale);
            }
            return together;
        }

        int allTogether(int what) {
            int together = 0;
            for (int sale = 0; sale < count; sale++) {
                together += together(sale, what);
            }
            return together;
        }

        int allNetPays() {
            int together = 0;
            for (int sale = 0; sale < count; sale++) {
                together += netPays(sale);
            }
            return together;
        }
    }

    /** The latest lines of each seller, in a ring a seller. */
    private static final class Journals {
        final int[] size = new int[SELLERS];
        private final int[] next = new int[SELLERS];
        private final int[] facts = new int[SELLERS * LINES * LINE_FACTS];

        void clear() {
            Arrays.fill(size, 0);
            Arrays.fill(next, 0);
        }

        void copyFrom(Journals other) {
            System.arraycopy(other.size, 0, size, 0, SELLERS);
            System.arraycopy(other.next, 0, next, 0, SELLERS);
            System.arraycopy(other.facts, 0, facts, 0, facts.length);
        }

        void write(int seller, int kind, int month, int much, int sale) {
            int slot = (seller * LINES + next[seller]) * LINE_FACTS;
            facts[slot] = kind;
            facts[slot + 1] = month;
            facts[slot + 2] = much;
            facts[slot + 3] = sale;
            next[seller] = (next[seller] + 1) % LINES;
            size[seller] = Math.min(LINES, size[seller] + 1);
        }

        int fact(int seller, int k, int what) {
            int line = (next[seller] + LINES - 1 - k) % LINES;
            return facts[(seller * LINES + line) * LINE_FACTS + what];
        }
    }

    /** The house as it is at one month: made anew for each question, with room for one who is only thought of. */
    private static final class Scene {
        final int[] parent = new int[SELLERS + 1];
        final int[] own = new int[SELLERS + 1];
        final int[] volume = new int[SELLERS + 1];
        final int[] group = new int[SELLERS + 1];
        final int[] below = new int[SELLERS + 1];
        final int[] direct = new int[SELLERS + 1];
        final int[] depth = new int[SELLERS + 1];
        final int[] rank = new int[SELLERS + 1];
        int month = 0;
        int active = 0;
        int left = 0;
        private int present = 0;
        private int count = 0;

        void look(State state, int atMonth) {
            lay(state, atMonth);
            settle(state.plan);
        }

        void lookWithSale(State state, int seller, int amount) {
            lay(state, state.now);
            addSale(seller, amount);
            settle(state.plan);
        }

        void lookWithNewcomer(State state, int sponsor, int amount) {
            lay(state, state.now);
            int newcomer = count;
            clearRow(newcomer);
            parent[newcomer] = sponsor;
            present |= 1 << newcomer;
            count++;
            addSale(newcomer, amount);
            settle(state.plan);
        }

        boolean isActive(int seller) {
            return (active >> seller & 1) == 1;
        }

        int activeLegs(int seller) {
            return Integer.bitCount(direct[seller] & active);
        }

        int uplineLength(int seller) {
            int length = 0;
            int up = parent[seller];
            while (length <= SELLERS && up != NONE) {
                length++;
                up = parent[up];
            }
            return length;
        }

        private void lay(State state, int atMonth) {
            Crew crew = state.crew;
            month = atMonth;
            count = crew.count;
            present = 0;
            left = 0;
            for (int seller = 0; seller < count; seller++) {
                clearRow(seller);
                parent[seller] = crew.sponsorAt(seller, month);
                present |= crew.joined[seller] <= month ? 1 << seller : 0;
                left |= crew.hasLeft(seller) && crew.left[seller] <= month ? 1 << seller : 0;
            }
            laySales(state.sales, state.plan.window);
        }

        private void clearRow(int seller) {
            own[seller] = 0;
            volume[seller] = 0;
            group[seller] = 0;
            below[seller] = 0;
            direct[seller] = 0;
            depth[seller] = 0;
        }

        private void laySales(Sales sales, int window) {
            for (int sale = 0; sale < sales.count; sale++) {
                int age = month - sales.month[sale];
                if (age >= 0 && age < window) {
                    int seller = sales.who[sale];
                    int net = sales.netAmount(sale);
                    volume[seller] += net;
                    own[seller] += age == 0 ? net : 0;
                }
            }
        }

        private void addSale(int seller, int amount) {
            own[seller] += amount;
            volume[seller] += amount;
        }

        private void settle(Plan plan) {
            active = 0;
            for (int seller = 0; seller < count; seller++) {
                if ((present >> seller & 1) == 1) {
                    countUpwards(seller);
                    boolean works = (left >> seller & 1) == 0;
                    active |= works && own[seller] >= plan.quota ? 1 << seller : 0;
                }
            }
            for (int seller = 0; seller < count; seller++) {
                rank[seller] = plan.rankFor(group[seller], activeLegs(seller));
            }
        }

        private void countUpwards(int seller) {
            if (parent[seller] != NONE) {
                direct[parent[seller]] |= 1 << seller;
            }
            int up = seller;
            for (int step = 0; step <= SELLERS && up != NONE; step++) {
                below[up] |= 1 << seller;
                group[up] += volume[seller];
                depth[up] = Math.max(depth[up], step);
                up = parent[up];
            }
        }
    }

    /** What one sale pays in a scene, level by level. */
    private static final class Paying {
        int taken = 0;
        final int[] facts = new int[LEVELS * FACTS];

        void payUp(State state, Scene scene, int seller, int amount) {
            taken = 0;
            int left = amount * state.plan.cap / 100;
            int up = scene.parent[seller];
            for (int step = 1; step <= SELLERS && up != NONE && taken < LEVELS; step++) {
                if (scene.isActive(up)) {
                    taken++;
                    takeLevel(state, scene, up, amount, left);
                    facts[(taken - 1) * FACTS + STEP] = step;
                    left -= fact(taken, PAID);
                }
                up = scene.parent[up];
            }
        }

        int fact(int level, int what) {
            return facts[(level - 1) * FACTS + what];
        }

        int answer(int level, int what) {
            if (level == 0) {
                return taken;
            }
            if (level < 1 || level > taken || what < 0 || what >= FACTS) {
                return NO_ANSWER;
            }
            return fact(level, what);
        }

        private void takeLevel(State state, Scene scene, int taker, int amount, int left) {
            Plan plan = state.plan;
            int rank = scene.rank[taker];
            int directs = Integer.bitCount(scene.direct[taker]);
            int monthsIn = scene.month - state.crew.joined[taker];
            int percent = plan.percentOf(taken, rank, directs, monthsIn);
            int whole = amount * percent / 100;
            boolean opened = plan.opens[rank] >= taken;
            int paid = opened ? Math.min(whole, left) : 0;
            int row = (taken - 1) * FACTS;
            facts[row + TAKER] = taker;
            facts[row + PERCENT] = percent;
            facts[row + PAID] = paid;
            facts[row + LOST] = opened ? 0 : whole;
            facts[row + CUT] = opened ? whole - paid : 0;
            facts[row + RANK_THEN] = rank;
        }
    }
}
