import java.util.ArrayList;
import java.util.List;
import java.util.TreeMap;
import java.util.regex.Matcher;
import java.util.regex.Pattern;

/**
 * The document once more, in its own words and as slowly as it likes: what would be is
 * found by doing it to a copy. The random runs hold the class against it.
 */
final class Model {
    static final int NONE = -1;

    /** A form as a tree, so that nothing of how the class holds one is repeated here. */
    static final class Form {
        String word;
        int months;
        int rate;
        Form one;
        Form other;

        int size() {
            return one == null ? 1 : 1 + one.size() + other.size();
        }
    }

    static Form leaf(String word, int rate) {
        Form form = new Form();
        form.word = word;
        form.rate = rate;
        return form;
    }

    static final class Rules {
        int quota = 100;
        int cap = 30;
        int vest = 3;
        int window = 2;
        int[] goal = {0, 1000, 2000, 3000};
        int[] legs = {0, 1, 2, 3};
        int[] opens = {1, 2, 3, 4};
        Form[] forms = {null, leaf("flat", 10), leaf("flat", 5), leaf("flat", 0), leaf("flat", 0), leaf("flat", 0)};
    }

    static final class Person {
        int joined;
        int quit = 1000;
        int sponsor;
        int drawn;
        TreeMap<Integer, Integer> moves = new TreeMap<>();
        List<int[]> lines = new ArrayList<>();

        Person copy() {
            Person p = new Person();
            p.joined = joined;
            p.quit = quit;
            p.sponsor = sponsor;
            p.drawn = drawn;
            p.moves.putAll(moves);
            p.lines.addAll(lines);
            return p;
        }
    }

    static final class Sale {
        int seller;
        int amount;
        int month;
        int told;
        int back;
        List<int[]> levels = new ArrayList<>();

        Sale copy() {
            Sale s = new Sale();
            s.seller = seller;
            s.amount = amount;
            s.month = month;
            s.told = told;
            s.back = back;
            s.levels.addAll(levels);
            return s;
        }

        int net(int number) {
            return number * (100 - back) / 100;
        }
    }

    StringBuilder tape = new StringBuilder();
    int fault = 0;
    int place = NONE;
    Rules rules = new Rules();
    int now = 0;
    List<Person> people = new ArrayList<>();
    List<Sale> sales = new ArrayList<>();
    Model[] images = new Model[3];

    Model() {
        people.add(new Person());
        people.get(0).sponsor = NONE;
    }

    Model copy() {
        Model m = new Model();
        m.take(this);
        return m;
    }

    void take(Model from) {
        tape = new StringBuilder(from.tape);
        fault = from.fault;
        place = from.place;
        rules = from.rules;
        now = from.now;
        people = new ArrayList<>();
        for (Person p : from.people) {
            people.add(p.copy());
        }
        sales = new ArrayList<>();
        for (Sale s : from.sales) {
            sales.add(s.copy());
        }
    }

    // The tape.

    int feed(int... numbers) {
        if (tape.length() + 20 > 600) {
            return NONE;
        }
        for (int number : numbers) {
            for (int shift = 24; shift >= 0; shift -= 8) {
                tape.append((char) (number >> shift & 255));
            }
        }
        return tape.length();
    }

    int end(int n) {
        if (n < 0 || n > tape.length()) {
            return NONE;
        }
        tape.setLength(n);
        return n;
    }

    static final Pattern TOKEN = Pattern.compile("[\\n ]*([a-z]+|[0-9]+|;|[\\s\\S]|$)");

    /** Told apart from slips: the text can't go on at a place. */
    static final class Stop extends RuntimeException {
        private static final long serialVersionUID = 1L;
        final int place;

        Stop(int place) {
            this.place = place;
        }
    }

    private List<String> words;
    private List<Integer> places;
    private int next;
    private TreeMap<Integer, Integer> slips;
    private int nodes;

    int plan() {
        String text = tape.toString();
        tape.setLength(0);
        Rules told = new Rules();
        slips = new TreeMap<>();
        try {
            tokens(text);
            while (!words.get(next).isEmpty()) {
                clause(told);
            }
        } catch (Stop stop) {
            fault = 1;
            place = stop.place;
            return NONE;
        }
        fault = slips.isEmpty() ? 0 : slips.firstEntry().getValue();
        place = slips.isEmpty() ? NONE : slips.firstKey();
        if (fault != 0) {
            return NONE;
        }
        Model fresh = new Model();
        fresh.rules = told;
        take(fresh);
        return 0;
    }

    private void tokens(String text) {
        words = new ArrayList<>();
        places = new ArrayList<>();
        next = 0;
        Matcher m = TOKEN.matcher(text);
        int from = 0;
        do {
            m.find(from);
            words.add(m.group(1));
            places.add(m.start(1));
            from = m.end();
        } while (!words.get(words.size() - 1).isEmpty());
    }

    private String word() {
        return words.get(next++);
    }

    private Stop stop() {
        return new Stop(places.get(next - 1));
    }

    private int number(int least, int most) {
        String word = word();
        if (!word.matches("[0-9]{1,4}")) {
            throw stop();
        }
        int told = Integer.parseInt(word);
        if (told < least || told > most) {
            slips.putIfAbsent(places.get(next - 1), 2);
            return least;
        }
        return told;
    }

    private void clause(Rules told) {
        switch (word()) {
            case "level" -> {
                int which = number(1, 5);
                nodes = 0;
                told.forms[which] = form();
            }
            case "rank" -> {
                int which = number(1, 3);
                told.goal[which] = number(0, 9999);
                told.legs[which] = number(0, 4);
            }
            case "opens" -> {
                int which = number(0, 3);
                told.opens[which] = number(0, 5);
            }
            case "quota" -> told.quota = number(0, 9999);
            case "cap" -> told.cap = number(0, 99);
            case "vest" -> told.vest = number(0, 12);
            case "window" -> told.window = number(1, 6);
            default -> throw stop();
        }
        if (!word().equals(";")) {
            throw stop();
        }
    }

    private Form form() {
        Form form = new Form();
        form.word = word();
        if (!form.word.matches("flat|ranked|wide|loyal|more|less|sum")) {
            throw stop();
        }
        if (++nodes > 8) {
            slips.putIfAbsent(places.get(next - 1), 3);
        }
        if (form.word.matches("more|less|sum")) {
            form.one = form();
            form.other = form();
        } else {
            form.months = form.word.equals("loyal") ? number(0, 99) : 0;
            form.rate = number(0, 20);
        }
        return form;
    }

    int fault(int what) {
        return what == 0 ? fault : what == 1 ? place : NONE;
    }

    // The tree and what is sold in it.

    boolean is(int seller) {
        return seller >= 0 && seller < people.size();
    }

    boolean quit(int seller, int month) {
        return people.get(seller).quit <= month;
    }

    int sponsor(int seller, int month) {
        Person p = people.get(seller);
        var latest = p.moves.floorEntry(month);
        return latest == null ? p.sponsor : latest.getValue();
    }

    /** Ends behind twenty, so that a ring can be seen by whoever asks. */
    List<Integer> upline(int seller, int month) {
        List<Integer> up = new ArrayList<>();
        for (int s = sponsor(seller, month); s != NONE && up.size() < 20; s = sponsor(s, month)) {
            up.add(s);
        }
        return up;
    }

    List<Integer> direct(int seller, int month) {
        List<Integer> found = new ArrayList<>();
        for (int s = 0; s < people.size(); s++) {
            if (people.get(s).joined <= month && sponsor(s, month) == seller) {
                found.add(s);
            }
        }
        return found;
    }

    List<Integer> below(int seller, int month) {
        List<Integer> found = new ArrayList<>();
        for (int s = 0; s < people.size(); s++) {
            if (people.get(s).joined <= month && (s == seller || upline(s, month).contains(seller))) {
                found.add(s);
            }
        }
        return found;
    }

    static int bits(List<Integer> list) {
        int bits = 0;
        for (int i : list) {
            bits |= 1 << i;
        }
        return bits;
    }

    int own(int seller, int month) {
        int sum = 0;
        for (Sale s : sales) {
            sum += s.seller == seller && s.month == month ? s.net(s.amount) : 0;
        }
        return sum;
    }

    boolean active(int seller, int month) {
        return !quit(seller, month) && own(seller, month) >= rules.quota;
    }

    int volume(int seller, int month) {
        int sum = 0;
        for (int i = 0; i < rules.window; i++) {
            sum += own(seller, month - i);
        }
        return sum;
    }

    int group(int seller, int month) {
        int sum = 0;
        for (int s : below(seller, month)) {
            sum += volume(s, month);
        }
        return sum;
    }

    int rank(int seller, int month) {
        int legs = 0;
        for (int s : direct(seller, month)) {
            legs += active(s, month) ? 1 : 0;
        }
        int rank = 0;
        for (int r = 1; r <= 3; r++) {
            if (group(seller, month) >= rules.goal[r] && legs >= rules.legs[r]) {
                rank = r;
            }
        }
        return rank;
    }

    int percent(Form form, int seller, int month) {
        switch (form.word) {
            case "flat":
                return form.rate;
            case "ranked":
                return form.rate * rank(seller, month);
            case "wide":
                return form.rate * Math.min(5, direct(seller, month).size());
            case "loyal":
                return month >= people.get(seller).joined + form.months ? form.rate : 0;
            default:
                break;
        }
        int one = percent(form.one, seller, month);
        int other = percent(form.other, seller, month);
        if (form.word.equals("sum")) {
            return Math.min(100, one + other);
        }
        return form.word.equals("more") == one > other ? one : other;
    }

    /** Rows: who, percent, pay, lost, cut, rank, how manieth. */
    List<int[]> pays(int seller, int amount, int month) {
        List<int[]> rows = new ArrayList<>();
        int paid = 0;
        List<Integer> up = upline(seller, month);
        for (int i = 0; i < up.size(); i++) {
            int who = up.get(i);
            int level = rows.size() + 1;
            if (level > 5 || !active(who, month)) {
                continue;
            }
            int rank = rank(who, month);
            int percent = percent(rules.forms[level], who, month);
            int whole = amount * percent / 100;
            int[] row = {who, percent, 0, whole, 0, rank, i + 1};
            if (rules.opens[rank] >= level) {
                row[3] = 0;
                row[2] = Math.min(whole, amount * rules.cap / 100 - paid);
                row[4] = whole - row[2];
            }
            paid += row[2];
            rows.add(row);
        }
        return rows;
    }

    int vested(Sale s, int[] row) {
        int net = s.net(row[2]);
        if (rules.vest == 0) {
            return net;
        }
        int months = Math.min(now, people.get(row[0]).quit) - s.told;
        return net * Math.max(0, Math.min(months, rules.vest)) / rules.vest;
    }

    int earned(int seller) {
        int sum = 0;
        for (Sale s : sales) {
            for (int[] row : s.levels) {
                sum += row[0] == seller ? vested(s, row) : 0;
            }
        }
        return sum;
    }

    int balance(int seller) {
        return earned(seller) - people.get(seller).drawn;
    }

    int rest(int seller) {
        int sum = 0;
        for (Sale s : sales) {
            for (int[] row : s.levels) {
                sum += row[0] == seller ? s.net(row[2]) - vested(s, row) : 0;
            }
        }
        return sum;
    }

    int debtors() {
        int n = 0;
        for (int s = 0; s < people.size(); s++) {
            n += balance(s) < 0 ? 1 : 0;
        }
        return n;
    }

    // The calls.

    int months(int n) {
        if (n < 1 || n > 12 || now + n > 99) {
            return NONE;
        }
        return now += n;
    }

    int join(int sponsor) {
        if (!is(sponsor) || quit(sponsor, now) || people.size() == 10) {
            return NONE;
        }
        return admit(sponsor);
    }

    private int admit(int sponsor) {
        Person p = new Person();
        p.joined = now;
        p.sponsor = sponsor;
        people.add(p);
        return people.size() - 1;
    }

    int why(int seller, int to, int month) {
        if (!is(seller) || !is(to) || seller == 0) {
            return 1;
        }
        if (month < now || month > now + 6L || month > 99) {
            return 2;
        }
        if (quit(seller, now) || quit(to, now)) {
            return 3;
        }
        if (sponsor(seller, month) == to) {
            return 4;
        }
        Model then = copy();
        then.people.get(seller).moves.put(month, to);
        for (int m = month; m <= 120; m++) {
            for (int s = 0; s < people.size(); s++) {
                if (then.upline(s, m).contains(s)) {
                    return 5;
                }
            }
        }
        return then.people.get(seller).moves.size() > 12 ? 6 : 0;
    }

    int move(int seller, int to, int month) {
        int why = why(seller, to, month);
        if (why == 0) {
            people.get(seller).moves.put(month, to);
        }
        return why;
    }

    int quit(int seller) {
        if (!is(seller) || seller == 0 || quit(seller, now)) {
            return NONE;
        }
        people.get(seller).quit = now;
        int lost = rest(seller);
        line(seller, 3, lost, NONE);
        return lost;
    }

    private void line(int seller, int kind, int much, int sale) {
        people.get(seller).lines.add(0, new int[] {kind, now, much, sale});
    }

    private boolean sells(int seller, int amount) {
        return is(seller) && !quit(seller, now) && amount >= 1 && amount <= 9999;
    }

    int sell(int seller, int amount, int month) {
        if (!sells(seller, amount) || month < now - 2 || month > now || month < people.get(seller).joined
            || sales.size() == 40) {
            return NONE;
        }
        return tell(seller, amount, month);
    }

    private int tell(int seller, int amount, int month) {
        Sale s = new Sale();
        s.seller = seller;
        s.amount = amount;
        s.month = month;
        s.told = now;
        sales.add(s);
        s.levels = pays(seller, amount, month);
        for (int[] row : s.levels) {
            if (row[2] > 0) {
                line(row[0], 0, row[2], sales.size() - 1);
            }
        }
        return sales.size() - 1;
    }

    int back(int sale, int percent) {
        if (sale < 0 || sale >= sales.size() || percent < 1 || percent > 100 || sales.get(sale).back + percent > 100) {
            return NONE;
        }
        Sale s = sales.get(sale);
        Sale before = s.copy();
        s.back += percent;
        int sum = 0;
        for (int[] row : s.levels) {
            int took = before.net(row[2]) - s.net(row[2]);
            sum += took;
            if (took > 0) {
                line(row[0], 1, took, sale);
            }
        }
        return sum;
    }

    int draw(int seller, int much) {
        if (!is(seller) || much < 1 || much > balance(seller)) {
            return NONE;
        }
        people.get(seller).drawn += much;
        line(seller, 2, much, NONE);
        return balance(seller);
    }

    int rule(int what) {
        int r = what % 10;
        if (what >= 0 && what <= 3) {
            return new int[] {rules.quota, rules.cap, rules.vest, rules.window}[what];
        }
        if (what >= 10 && what < 40 && r <= 3) {
            return (what < 20 ? rules.goal : what < 30 ? rules.legs : rules.opens)[r];
        }
        return what >= 41 && what <= 45 ? rules.forms[r].size() : -2;
    }

    int seller(int seller, int what) {
        if (!is(seller) || what < 0 || what > 11) {
            return -1000000;
        }
        Person p = people.get(seller);
        boolean gone = p.quit <= now;
        int best = -1;
        int first = -1;
        for (int m = p.joined; m <= now && what >= 8 && what <= 9; m++) {
            int rank = rank(seller, m);
            if (rank > best) {
                best = rank;
                first = m;
            }
        }
        int sold = 0;
        int exposed = 0;
        for (Sale s : sales) {
            if (s.seller == seller) {
                sold++;
                for (int[] row : s.levels) {
                    exposed += vested(s, row);
                }
            }
        }
        return new int[] {p.joined, gone ? p.quit : NONE, p.moves.size(), earned(seller), p.drawn, balance(seller),
            gone ? 0 : rest(seller), gone ? rest(seller) : 0, best, first, sold, exposed}[what];
    }

    int tree(int seller, int month, int what) {
        if (!is(seller) || what < 0 || what > 10 || month < 0 || people.get(seller).joined > month) {
            return -2;
        }
        boolean far = what <= 3 || what == 9 || what == 10;
        if (month > now && (!far || month > now + 6 || month > 99)) {
            return -2;
        }
        switch (what) {
            case 0: return sponsor(seller, month);
            case 1: return upline(seller, month).size();
            case 2: return bits(below(seller, month));
            case 3: return bits(direct(seller, month));
            case 4: return own(seller, month);
            case 5: return volume(seller, month);
            case 6: return group(seller, month);
            case 7: return active(seller, month) ? 1 : 0;
            case 8: return rank(seller, month);
            case 9: return generations(seller, month);
            default: break;
        }
        List<Integer> open = new ArrayList<>();
        for (int to = 0; to < people.size(); to++) {
            if (why(seller, to, month) == 0) {
                open.add(to);
            }
        }
        return bits(open);
    }

    private int generations(int seller, int month) {
        int most = 0;
        for (int s : direct(seller, month)) {
            most = Math.max(most, 1 + generations(s, month));
        }
        return most;
    }

    int moved(int seller, int k, int what) {
        if (!is(seller) || k < 0 || k >= people.get(seller).moves.size() || what < 0 || what > 1) {
            return -2;
        }
        var entry = new ArrayList<>(people.get(seller).moves.entrySet()).get(k);
        return what == 0 ? entry.getKey() : entry.getValue();
    }

    int common(int a, int b, int month) {
        if (!is(a) || !is(b) || month < 0 || month > now + 6L || month > 99
            || people.get(a).joined > month || people.get(b).joined > month) {
            return NONE;
        }
        List<Integer> ups = upline(a, month);
        ups.add(0, a);
        List<Integer> others = upline(b, month);
        others.add(b);
        for (int s : ups) {
            if (others.contains(s)) {
                return s;
            }
        }
        return NONE;
    }

    private List<int[]> repaid(Sale s) {
        return pays(s.seller, s.net(s.amount), now);
    }

    private boolean stale(Sale s) {
        List<Integer> then = new ArrayList<>();
        s.levels.forEach(row -> then.add(row[0]));
        List<Integer> anew = new ArrayList<>();
        repaid(s).forEach(row -> anew.add(row[0]));
        return !then.equals(anew);
    }

    int sale(int sale, int what) {
        if (sale < 0 || sale >= sales.size() || what < 0 || what > 10) {
            return -2;
        }
        Sale s = sales.get(sale);
        int pays = 0;
        int nets = 0;
        for (int[] row : s.levels) {
            pays += row[2];
            nets += s.net(row[2]);
        }
        Model then = copy();
        then.sales.get(sale).back = 100;
        return new int[] {s.seller, s.amount, s.month, s.told, s.back, s.net(s.amount), s.levels.size(), pays, nets,
            stale(s) ? 1 : 0, then.debtors()}[what];
    }

    int pay(int sale, int level, int what) {
        if (sale < 0 || sale >= sales.size() || level < 1 || level > sales.get(sale).levels.size()
            || what < 0 || what > 8) {
            return -2;
        }
        Sale s = sales.get(sale);
        int[] row = s.levels.get(level - 1);
        return what < 7 ? row[what] : what == 7 ? s.net(row[2]) : vested(s, row);
    }

    private static int tellRow(List<int[]> rows, int level, int what) {
        if (level == 0) {
            return rows.size();
        }
        return level < 1 || level > rows.size() || what < 0 || what > 6 ? -2 : rows.get(level - 1)[what];
    }

    int quote(int seller, int amount, int level, int what) {
        if (!sells(seller, amount)) {
            return -2;
        }
        Model then = copy();
        int sale = then.tell(seller, amount, now);
        return tellRow(then.sales.get(sale).levels, level, what);
    }

    int repaid(int sale, int level, int what) {
        if (sale < 0 || sale >= sales.size()) {
            return -2;
        }
        return tellRow(repaid(sales.get(sale)), level, what);
    }

    /** Every amount is tried, by one sale more that is made greater step by step. */
    int gap(int seller, int rank) {
        if (!is(seller) || quit(seller, now) || rank < 1 || rank > 3) {
            return NONE;
        }
        Model then = copy();
        Sale s = then.sales.get(then.tell(seller, 1, now));
        s.amount = 9999;
        if (then.rank(seller, now) < rank) {
            return NONE;
        }
        int low = 0;
        int high = 9999;
        while (low < high) {
            s.amount = (low + high) / 2;
            if (then.rank(seller, now) >= rank) {
                high = s.amount;
            } else {
                low = s.amount + 1;
            }
        }
        return low;
    }

    int lift(int seller, int rank, boolean which) {
        if (!is(seller) || rank < 1 || rank > 3) {
            return NONE;
        }
        List<Integer> idle = new ArrayList<>();
        for (int s : below(seller, now)) {
            if (s != seller && !quit(s, now) && !active(s, now)) {
                idle.add(s);
            }
        }
        int best = NONE;
        for (int pick = 0; pick < 1 << idle.size(); pick++) {
            Model then = copy();
            int set = 0;
            for (int i = 0; i < idle.size(); i++) {
                if ((pick >> i & 1) == 1) {
                    set |= 1 << idle.get(i);
                    then.tell(idle.get(i), rules.quota - own(idle.get(i), now), now);
                }
            }
            if (best != NONE && Integer.bitCount(set) >= Integer.bitCount(best)) {
                continue;
            }
            if (then.rank(seller, now) >= rank) {
                best = set;
            }
        }
        return best == NONE ? NONE : which ? best : Integer.bitCount(best);
    }

    int place(int seller, int amount, boolean much) {
        if (!is(seller) || amount < 1 || amount > 9999) {
            return NONE;
        }
        int best = NONE;
        int most = -1;
        for (int s = 0; s < people.size(); s++) {
            if (quit(s, now)) {
                continue;
            }
            Model then = copy();
            int sale = then.tell(then.admit(s), amount, now);
            int sum = 0;
            for (int[] row : then.sales.get(sale).levels) {
                sum += row[0] == seller ? row[2] : 0;
            }
            if (sum > most) {
                most = sum;
                best = s;
            }
        }
        return much ? most : best;
    }

    int due(int seller, int month) {
        if (!is(seller) || month < now || month > now + 12) {
            return NONE;
        }
        Model then = copy();
        then.now = month;
        return then.earned(seller);
    }

    int ready(int seller, int much) {
        if (!is(seller)) {
            return NONE;
        }
        Model then = copy();
        for (; then.now < now + 50; then.now++) {
            if (then.balance(seller) >= much) {
                return then.now;
            }
        }
        return NONE;
    }

    int journal(int seller, int k, int what) {
        if (!is(seller) || what < 0 || what > 3) {
            return -2;
        }
        List<int[]> lines = people.get(seller).lines;
        int size = Math.min(16, lines.size());
        if (k == NONE) {
            return what == 0 ? size : -2;
        }
        return k < 0 || k >= size ? -2 : lines.get(k)[what];
    }

    int books(int what) {
        int[] all = new int[20];
        all[0] = now;
        all[1] = people.size();
        all[2] = sales.size();
        for (Sale s : sales) {
            all[3] += s.amount;
            all[4] += s.net(s.amount);
            all[17] += what == 17 && stale(s) ? 1 : 0;
            for (int[] row : s.levels) {
                all[5] += row[2];
                all[6] += s.net(row[2]);
                all[7] += row[3];
                all[8] += row[4];
                all[9] += vested(s, row);
                all[quit(row[0], now) ? 11 : 10] += s.net(row[2]) - vested(s, row);
            }
        }
        for (int s = people.size() - 1; s >= 0; s--) {
            all[12] += people.get(s).drawn;
            all[13] += Math.max(0, -balance(s));
            all[15] |= quit(s, now) ? 1 << s : 0;
            all[16] |= active(s, now) ? 1 << s : 0;
            int rank = rank(s, now);
            if (rank >= all[18]) {
                all[18] = rank;
                all[19] = s;
            }
        }
        all[14] = debtors();
        return what < 0 || what > 19 ? -2 : all[what];
    }

    boolean image(int k) {
        if (k < 0 || k > 2) {
            return false;
        }
        images[k] = copy();
        return true;
    }

    boolean again(int k) {
        if (k < 0 || k > 2 || images[k] == null) {
            return false;
        }
        take(images[k]);
        return true;
    }
}
