/** Boundary cases of Terms 1 and of promises 1 to 5 and 13: the first plan, the tape, texts, faults, rules, percents. */
public final class PlanEdgesTest extends Edges {
    private static final int BLANK = 0x20202020;

    private PlanEdgesTest() {
    }

    public static void main(String[] args) throws ReflectiveOperationException {
        run(PlanEdgesTest.class, "edges of plans");
    }

    private static int feedBlanks(CommissionHouse h) {
        return h.feed(BLANK, BLANK, BLANK, BLANK, BLANK);
    }

    private static int feedText(CommissionHouse h, String twenty) {
        int[] f = PlanTexts.feeds(twenty).get(0);
        return h.feed(f[0], f[1], f[2], f[3], f[4]);
    }

    private static int rule(String text, int what) {
        return planned(text).rule(what);
    }

    // Terms 1: what a plan has, and the bounds of it.

    @Holds(in = "Terms 1", says = "A PLAN has LEVELS 1 .. 5, each of a FORM;")
    static void levelsAreOneToFive() {
        bad(2, "level ^0 flat 1;");
        bad(2, "level ^6 flat 1;");
        bad(2, "level ^9999 flat 1;");
        is(3, rule("level 1 sum flat 1 flat 1;", 41));
        is(3, rule("level 5 sum flat 1 flat 1;", 45));
        for (int level = 1; level <= 5; level++) {
            is(1, new CommissionHouse().rule(40 + level));
        }
    }

    @Holds(in = "Terms 1", says = "RANKS 1 .. 3,")
    static void ranksAreOneToThree() {
        bad(2, "rank ^0 5 1;");
        bad(2, "rank ^4 5 1;");
        is(5, rule("rank 1 5 1;", 11));
        is(5, rule("rank 3 5 1;", 13));
    }

    @Holds(in = "Terms 1", says = "each of a GOAL, 0 .. 9999 (1000 by the RANK at first),")
    static void goals() {
        is(0, rule("rank 1 0 1;", 11));
        is(9999, rule("rank 1 9999 1;", 11));
        bad(1, "rank 1 ^10000 1;");
        for (int rank = 1; rank <= 3; rank++) {
            is(1000 * rank, new CommissionHouse().rule(10 + rank));
        }
    }

    @Holds(in = "Terms 1", says = "and LEGS, 0 .. 4 (the RANK at first);")
    static void legs() {
        is(0, rule("rank 1 5 0;", 21));
        is(4, rule("rank 1 5 4;", 21));
        bad(2, "rank 1 5 ^5;");
        for (int rank = 1; rank <= 3; rank++) {
            is(rank, new CommissionHouse().rule(20 + rank));
        }
    }

    @Holds(in = "Terms 1", says = "of each RANK, 0 too, how many LEVELS it OPENS, 0 .. 5 (the RANK and 1 at first);")
    static void opens() {
        is(0, rule("opens 0 0;", 30));
        is(5, rule("opens 0 5;", 30));
        is(0, rule("opens 3 0;", 33));
        is(5, rule("opens 3 5;", 33));
        bad(2, "opens 0 ^6;");
        bad(2, "opens 3 ^6;");
        for (int rank = 0; rank <= 3; rank++) {
            is(rank + 1, new CommissionHouse().rule(30 + rank));
        }
    }

    @Holds(in = "Terms 1", says = "a QUOTA, 0 .. 9999 (100),")
    static void quota() {
        is(0, rule("quota 0;", 0));
        is(9999, rule("quota 9999;", 0));
        bad(1, "quota ^10000;");
        is(100, new CommissionHouse().rule(0));
    }

    @Holds(in = "Terms 1", says = "a CAP, 0 .. 99 (30),")
    static void cap() {
        is(0, rule("cap 0;", 1));
        is(99, rule("cap 99;", 1));
        bad(2, "cap ^100;");
        is(30, new CommissionHouse().rule(1));
    }

    @Holds(in = "Terms 1", says = "VEST, 0 .. 12 (3),")
    static void vest() {
        is(0, rule("vest 0;", 2));
        is(12, rule("vest 12;", 2));
        bad(2, "vest ^13;");
        is(3, new CommissionHouse().rule(2));
    }

    @Holds(in = "Terms 1", says = "a WINDOW, 1 .. 6 (2).")
    static void window() {
        is(1, rule("window 1;", 3));
        is(6, rule("window 6;", 3));
        bad(2, "window ^0;");
        bad(2, "window ^7;");
        is(2, new CommissionHouse().rule(3));
    }

    // Terms 1: the tape and its tokens.

    @Holds(in = "Terms 1", says = "THE TAPE has at most 600 bytes.")
    static void sixHundredBytesAreRead() {
        CommissionHouse h = new CommissionHouse();
        tell(h, " ".repeat(591) + "quota 33;");
        is(0, h.plan());
        is(33, h.rule(0));
        tell(h, " ".repeat(600));
        is(NONE, feedBlanks(h));
        is(600, h.end(600));
        // as many tokens as there are bytes, and a word, a number, a form that end with the last of them
        bad(1, "^" + ";".repeat(600));
        bad(1, " ".repeat(595) + "quota^");
        bad(1, " ".repeat(593) + "quota 7^");
        bad(1, "level 1" + " sum".repeat(148) + "\n^");
    }

    @Holds(in = "Terms 1", says = "TOKENS, as long as they go,")
    static void tokensAreAsLongAsTheyGo() {
        is(12, rule("quota 12;", 0));
        bad(1, "rank 1 10^;");
        bad(1, "^levelrank 1;");
        bad(1, "^quotaa 1;");
        bad(1, "quota 1 ^2;");
        is(9, rule("rank1 9 2;", 11));
        is(7, rule("opens 0 1;quota7;", 0));
        // no further than the tape does: not into what was on it ahead of that
        CommissionHouse h = new CommissionHouse();
        for (String text : new String[] {"quotas 12345", "quota"}) {
            tell(h, text);
            is(NONE, h.plan());
        }
        is(5, h.fault(1));
        tell(h, "quota 7");
        is(NONE, h.plan());
        is(7, h.fault(1));
    }

    @Holds(in = "Terms 1", says = "blanks (10, 32) between:")
    static void tenAndThirtyTwoAreBlanks() {
        is(7, rule("\n \nquota\n\n7 \n;\n", 0));
        is(7, rule("quota 7;", 0));
        is(0, planned(" ").fault(0));
        is(0, planned("\n").fault(0));
        for (int sign : new int[] {0, 1, 9, 11, 12, 13, 31, 33, 127, 128, 138, 160, 255}) {
            bad(1, "quota^" + (char) sign + "7;");
            bad(1, "^" + (char) sign);
        }
    }

    @Holds(in = "Terms 1", says = "words, rows of letters a .. z;")
    static void wordsAreOfSmallLetters() {
        bad(1, "^Quota 7;");
        bad(1, "^QUOTA 7;");
        bad(1, "^q`uota 7;");
        bad(1, "quota^`7;");
        bad(1, "quota^{7;");
        bad(1, "level 1 ^la 7;");
        bad(1, "level 1 ^flaz 7;");
        for (String word : new String[] {"level", "rank", "opens", "quota", "cap", "vest", "window"}) {
            for (int i = 0; i < word.length(); i++) {
                bad(1, "^" + word.substring(0, i) + "z" + word.substring(i + 1) + " 1;");
            }
        }
        for (String word : new String[] {"flat", "ranked", "wide", "loyal", "more", "less", "sum"}) {
            for (int i = 0; i < word.length(); i++) {
                bad(1, "level 1 ^" + word.substring(0, i) + "z" + word.substring(i + 1) + " 1;");
            }
        }
        // a and z are letters, so they make the word another one
        bad(1, "^acap 7;");
        bad(1, "^capz 7;");
        bad(1, "^ca 7;");
    }

    @Holds(in = "Terms 1", says = "NUMBERS, 1 to 4 digits;")
    static void numbersHaveOneToFourDigits() {
        is(7, rule("quota 7;", 0));
        is(7, rule("quota 0007;", 0));
        is(90, rule("quota 90;", 0));
        is(1234, rule("quota 1234;", 0));
        is(5678, rule("quota 5678;", 0));
        bad(1, "quota ^00007;");
        bad(1, "quota ^/7;");
        bad(1, "quota ^:7;");
        bad(1, "quota 7^:;");
        bad(1, "quota ^-7;");
    }

    @Holds(in = "Terms 1", says = "; one byte.")
    static void aSemicolonIsOneByte() {
        bad(1, "quota 7;^;");
        bad(1, "^;quota 7;");
        bad(1, "quota 7^:");
        is(8, rule("quota 7;quota 8;", 0));
    }

    // Terms 1: the grammar. Each text is cut ahead of each token, and has another one there.

    private static final String[] STRANGERS = {"zz", ";", "1", "level", "flat", "sum", "12345", "#"};

    private static void eachToken(String clause) {
        String[] tokens = clause.split(" ");
        good(clause);
        for (int i = 0; i < tokens.length; i++) {
            String ahead = String.join(" ", java.util.Arrays.copyOf(tokens, i)) + (i > 0 ? " " : "");
            String behind = clause.substring(ahead.length() + tokens[i].length());
            if (i > 0) {
                bad(1, ahead + "^");
            }
            for (String stranger : STRANGERS) {
                if (!kind(stranger).equals(kind(tokens[i]))) {
                    bad(1, ahead + "^" + stranger + behind);
                }
            }
        }
    }

    private static String kind(String token) {
        return token.matches("[0-9]{1,4}") ? "number"
            : token.matches("flat|ranked|wide|loyal|more|less|sum") ? "form"
            : token.matches("level|rank|opens|quota|cap|vest|window") ? "clause"
            : token;
    }

    @Holds(in = "Terms 1", says = "A PLAN's text: {('level' NUMBER FORM | 'rank' NUMBER NUMBER NUMBER |"
        + " 'opens' NUMBER NUMBER | 'quota' NUMBER | 'cap' NUMBER | 'vest' NUMBER | 'window' NUMBER) ';'}")
    static void clauses() {
        good("");
        for (String clause : new String[] {"level 1 flat 1 ;", "rank 1 1 1 ;", "opens 1 1 ;", "quota 1 ;", "cap 1 ;",
            "vest 1 ;", "window 1 ;"}) {
            eachToken(clause);
            good(clause + clause);
            bad(1, clause + "^;");
            bad(1, clause + clause.replace(";", "^"));
        }
    }

    @Holds(in = "Terms 1", says = "(level: which; rank: which, GOAL, LEGS; opens: the RANK, 0 .. 3, how many).")
    static void whichNumberIsWhich() {
        CommissionHouse h = planned("level 4 more flat 1 flat 2;rank 2 3 4;opens 0 3;opens 3 2;");
        is(3, h.rule(44));
        is(3, h.rule(12));
        is(4, h.rule(22));
        is(3, h.rule(30));
        is(2, h.rule(33));
        bad(2, "opens ^4 1;");
    }

    @Holds(in = "Terms 1", says = "FORM: 'flat' NUMBER | 'ranked' NUMBER | 'wide' NUMBER | 'loyal' NUMBER NUMBER |"
        + " ('more' | 'less' | 'sum') FORM FORM")
    static void forms() {
        for (String form : new String[] {"flat 1", "ranked 1", "wide 1", "loyal 1 1", "more flat 1 wide 1",
            "less ranked 1 loyal 1 1", "sum flat 1 sum flat 1 flat 1", "sum sum flat 1 flat 1 flat 1"}) {
            eachToken("level 1 " + form + " ;");
        }
        bad(1, "level 1 flat 1 ^flat 1;");
        bad(1, "level 1 loyal 1 1 ^1;");
    }

    @Holds(in = "Terms 1", says = "(rates, the last NUMBER of each, are 0 .. 20; of loyal months, 0 .. 99, ahead of it).")
    static void ratesAndMonths() {
        for (String word : new String[] {"flat", "ranked", "wide", "loyal 1"}) {
            good("level 1 " + word + " 0;");
            good("level 1 " + word + " 20;");
            bad(2, "level 1 " + word + " ^21;");
            bad(2, "level 1 sum flat 1 " + word + " ^9999;");
        }
        good("level 1 loyal 0 20;");
        good("level 1 loyal 99 20;");
        bad(2, "level 1 loyal ^100 20;");
        bad(2, "level 1 loyal ^9999 0;");
    }

    @Holds(in = "Terms 1", says = "At first LEVEL 1 is flat 10, LEVEL 2 flat 5, the others flat 0.")
    static void firstForms() {
        CommissionHouse h = fresh(0, 1, 2, 3, 4);
        for (int seller = 0; seller < 5; seller++) {
            h.sell(seller, 100, 0);
        }
        int[] percents = {10, 5, 0, 0, 0};
        for (int level = 1; level <= 5; level++) {
            is(percents[level - 1], h.quote(5, 100, level, 1));
            is(1, h.rule(40 + level));
        }
        // what a text does not name is as at first, whatever plan there was
        tell(h, "level 1 sum flat 1 flat 1;level 2 flat 20;quota 5;");
        is(0, h.plan());
        tell(h, "cap 31;");
        is(0, h.plan());
        is(1, h.rule(41));
        is(100, h.rule(0));
        is(31, h.rule(1));
    }

    @Holds(in = "Terms 1", says = "Later ones strike.")
    static void laterOnesStrike() {
        CommissionHouse h = planned("quota 5;level 1 sum flat 1 flat 1;rank 1 7 2;opens 1 4;cap 1;vest 1;window 1;"
            + "level 1 flat 4;rank 1 8 3;opens 1 5;cap 2;vest 2;window 3;quota 6;");
        int[][] rules = {{0, 6}, {1, 2}, {2, 2}, {3, 3}, {11, 8}, {21, 3}, {31, 5}, {41, 1}};
        for (int[] rule : rules) {
            is(rule[1], h.rule(rule[0]));
        }
        // a form of one node behind one of more leaves nothing of it
        crew(h, 0);
        h.sell(0, 6, 0);
        is(4, h.quote(1, 100, 1, 1));
        // one that can't be is a fault, even if a later one is fine
        bad(2, "quota 5;cap ^100;cap 5;");
    }

    // Terms 1: faults and their places.

    @Holds(in = "Terms 1", says = "FAULTS, with places (a token's first byte; the end's):")
    static void placesOfFaults() {
        bad(1, "  \n^levels 1 flat 1;");
        bad(2, "quota 1;\ncap   ^100;");
        bad(1, "quota 5^");
        bad(1, "quota 5  \n^");
        bad(1, "quota^");
        bad(1, "level 1 sum flat 1^");
        bad(1, "cap1;".repeat(119) + "cap 1^");
        bad(1, "cap1;".repeat(119) + "cap1^#");
        bad(2, "cap1;".repeat(118) + "opens 0 ^6;");
    }

    @Holds(in = "Terms 1", says = "1 the first byte or token with which no text goes on (a longer row of digits is no token).")
    static void theFirstWithWhichNoTextGoesOn() {
        bad(1, "quota 1 ^2 #;");
        bad(1, "quota ^# 2 zz;");
        bad(1, "quota ^x y z;");
        bad(1, "quota ^12345;");
        bad(1, "quota ^123456789012345678901234567890;");
        bad(1, "quota 1 ^12345;");
        bad(1, "^12345");
        bad(1, "level ^00001 flat 1;");
        // of what can't be by its number, or by its nodes, all is read on
        bad(1, "level 6 flat 21;quota ^zz;");
        bad(1, "opens 4 6^");
        bad(1, "level 1 more more more more flat 1 flat 1 flat 1 flat 1 flat 1^");
    }

    @Holds(in = "Terms 1", says = "If there is none, the first by place, of one place the least: 2 a NUMBER that can't be (as above);")
    static void theFirstNumberThatCantBe() {
        bad(2, "level ^6 flat 21;cap 100;");
        bad(2, "quota 9999;rank ^4 1 5;");
        bad(2, "rank 3 1 ^5;rank 4 1 1;");
        bad(2, "level 1 sum flat ^21 flat 22;");
        // a number that can't be ahead of a 9th node, in one form and in two
        bad(2, "level 1 more more more more flat 1 flat 1 flat 1 flat ^21 flat 1;");
        bad(2, "level ^6 more more more more flat 1 flat 1 flat 1 flat 1 flat 1;");
        bad(2, "cap ^100;level 1 more more more more flat 1 flat 1 flat 1 flat 1 flat 1;");
    }

    @Holds(in = "Terms 1", says = "3 a 9th NODE of a FORM (flat, ranked, wide, loyal, more, less, sum are one each), at it.")
    static void aNinthNode() {
        is(7, rule("level 1 more less sum flat 1 ranked 1 wide 1 loyal 1 1;", 41));
        is(7, rule("level 5 sum flat 1 less loyal 1 1 more wide 1 ranked 1;", 45));
        for (String ninth : new String[] {"flat 1", "ranked 1", "wide 1", "loyal 1 1"}) {
            bad(3, "level 1 more less sum more flat 1 ranked 1 wide 1 loyal 1 1 ^" + ninth + ";");
        }
        for (String ninth : new String[] {"more", "less", "sum"}) {
            bad(3, "level 1 sum sum sum sum sum sum sum sum ^" + ninth + " flat 1".repeat(10) + ";");
        }
        for (int level = 1; level <= 5; level++) {
            bad(3, "level " + level + " more more more more flat 1 flat 1 flat 1 flat 1 ^flat 1;");
        }
        // the nodes of each form are counted apart, and the first 9th one is told
        good("level 1 more more more flat 1 flat 1 flat 1 flat 1;level 1 more more more flat 1 flat 1 flat 1 flat 1;");
        bad(3, "level 1 flat 1;level 2 sum wide 1 sum wide 1 sum wide 1 sum wide 1 ^sum wide 1 wide 1;");
        bad(3, "level 1 more more more more flat 1 flat 1 flat 1 flat 1 ^flat 21;");
        bad(3, "level 1 more more more more flat 1 flat 1 flat 1 flat 1 ^flat 1;cap 100;");
    }

    // Terms 1: percents.

    private static CommissionHouse pair(String text) {
        return crew(planned("quota 0;" + text), 0);
    }

    @Holds(in = "Terms 1", says = "PERCENT by a FORM of a SELLER at a month: flat r: r;")
    static void flat() {
        is(0, pair("level 1 flat 0;").quote(1, 100, 1, 1));
        is(20, pair("level 1 flat 20;").quote(1, 100, 1, 1));
        // each level by its own form, whatever those ahead of it and behind it are
        String big = " sum sum flat 20 flat 20 sum flat 20 flat 20;";
        CommissionHouse h = crew(pair("level 1" + big + "level 2 flat 3;level 3" + big + "level 4 less flat 4 flat 5;"
            + "level 5 flat 7;"), 1, 2, 3, 4);
        int[] percents = {80, 3, 80, 4, 7};
        for (int level = 1; level <= 5; level++) {
            is(percents[level - 1], h.quote(5, 100, level, 1));
        }
    }

    @Holds(in = "Terms 1", says = "ranked r: r by his RANK;")
    static void ranked() {
        CommissionHouse h = pair("level 1 ranked 20;rank 1 100 0;rank 2 200 0;rank 3 300 0;");
        is(0, h.quote(1, 99, 1, 1));
        is(20, h.quote(1, 100, 1, 1));
        is(20, h.quote(1, 199, 1, 1));
        is(40, h.quote(1, 200, 1, 1));
        is(60, h.quote(1, 300, 1, 1));
    }

    @Holds(in = "Terms 1", says = "wide r: r by how many are DIRECT under him, 5 at most;")
    static void wide() {
        CommissionHouse h = pair("level 1 wide 7;level 2 wide 7;");
        is(7, h.quote(1, 100, 1, 1));
        crew(h, 0, 0, 0);
        is(28, h.quote(1, 100, 1, 1));
        crew(h, 0);
        is(35, h.quote(1, 100, 1, 1));
        crew(h, 0, 0);
        is(35, h.quote(1, 100, 1, 1));
        // those below, but not direct, are not counted; one who has quit is
        h = crew(pair("level 1 wide 7;level 2 wide 7;"), 1, 1);
        is(14, h.quote(2, 100, 1, 1));
        is(7, h.quote(2, 100, 2, 1));
        h.quit(3);
        is(14, h.quote(2, 100, 1, 1));
    }

    @Holds(in = "Terms 1", says = "loyal n r: r, if he JOINED n months ahead of it at least, else 0;")
    static void loyal() {
        is(9, pair("level 1 loyal 0 9;").quote(1, 100, 1, 1));
        CommissionHouse h = pair("level 1 loyal 3 9;");
        is(0, pass(h, 2).quote(1, 100, 1, 1));
        is(9, pass(h, 1).quote(1, 100, 1, 1));
        is(9, pass(h, 1).quote(1, 100, 1, 1));
        // the month is the sale's, not the one in which it is told
        is(0, h.sell(1, 100, 2));
        is(1, h.sell(1, 100, 3));
        is(0, h.pay(0, 1, 1));
        is(9, h.pay(1, 1, 1));
        // it is he who takes the level that must have joined so early
        crew(pass(h, 3), 1, 2);
        is(0, h.quote(3, 100, 1, 1));
        is(7, h.seller(2, 0));
        is(9, h.quote(2, 100, 1, 1));
        h = pair("level 1 loyal 99 9;");
        is(0, pass(h, 98).quote(1, 100, 1, 1));
        is(9, pass(h, 1).quote(1, 100, 1, 1));
    }

    @Holds(in = "Terms 1", says = "more, less: the greater, the less one of both;")
    static void moreAndLess() {
        is(4, pair("level 1 more flat 3 flat 4;").quote(1, 100, 1, 1));
        is(4, pair("level 1 more flat 4 flat 3;").quote(1, 100, 1, 1));
        is(4, pair("level 1 more flat 4 flat 4;").quote(1, 100, 1, 1));
        is(3, pair("level 1 less flat 3 flat 4;").quote(1, 100, 1, 1));
        is(3, pair("level 1 less flat 4 flat 3;").quote(1, 100, 1, 1));
        is(0, pair("level 1 less flat 4 flat 0;").quote(1, 100, 1, 1));
        is(5, pair("level 1 less more flat 1 flat 5 more flat 6 flat 2;").quote(1, 100, 1, 1));
        is(5, pair("level 1 more less flat 5 flat 7 less flat 3 flat 9;").quote(1, 100, 1, 1));
    }

    @Holds(in = "Terms 1", says = "sum: both together, 100 at most.")
    static void sum() {
        is(7, pair("level 1 sum flat 3 flat 4;").quote(1, 100, 1, 1));
        is(40, pair("level 1 sum flat 20 flat 20;").quote(1, 100, 1, 1));
        is(80, pair("level 1 sum sum flat 20 flat 20 sum flat 20 flat 20;").quote(1, 100, 1, 1));
        // five are direct under 0, so that wide 20 is 100, and wide 16 is 80
        is(100, crew(pair("level 1 sum wide 20 flat 0;"), 0, 0, 0, 0).quote(1, 100, 1, 1));
        is(99, crew(pair("level 1 sum wide 16 flat 19;"), 0, 0, 0, 0).quote(1, 100, 1, 1));
        is(100, crew(pair("level 1 sum wide 16 flat 20;"), 0, 0, 0, 0).quote(1, 100, 1, 1));
        is(100, crew(pair("level 1 sum wide 20 flat 1;"), 0, 0, 0, 0).quote(1, 100, 1, 1));
        is(100, crew(pair("level 1 sum wide 20 wide 20;"), 0, 0, 0, 0).quote(1, 100, 1, 1));
        is(100, crew(pair("level 1 less sum wide 20 wide 20 sum wide 20 flat 5;"), 0, 0, 0, 0).quote(1, 100, 1, 1));
    }

    // Promises 1 to 5.

    @Holds(in = "Promise 1", says = "A PLAN as at first, SELLER 0, NOW 0; no images.")
    static void aNewObject() {
        CommissionHouse h = new CommissionHouse();
        int[] rules = {100, 30, 3, 2};
        for (int what = 0; what < 4; what++) {
            is(rules[what], h.rule(what));
        }
        is(1, h.books(1));
        is(0, h.books(0));
        is(0, h.books(2));
        is(0, h.seller(0, 5));
        is(0, h.journal(0, NONE, 0));
        is(NONE, h.end(1));
        for (int k = 0; k < 3; k++) {
            is(false, h.again(k));
        }
        // two objects have nothing in common
        CommissionHouse other = crew(planned("quota 1;"), 0);
        other.image(0);
        is(false, h.again(0));
        is(100, h.rule(0));
        is(1, h.books(1));
    }

    @Holds(in = "Promise 2", says = "The tape: twenty bytes come behind it, of each number the highest first: how many it has.")
    static void feedIsTwentyBytes() {
        CommissionHouse h = new CommissionHouse();
        // "quota 12;cap 34;vest" " 5;window 6;opens 0 3"
        is(20, h.feed(0x71756f74, 0x61203132, 0x3b636170, 0x2033343b, 0x76657374));
        is(40, h.feed(0x20353b77, 0x696e646f, 0x7720363b, 0x6f70656e, 0x73203020));
        is(60, h.feed(0x333b2020, BLANK, BLANK, BLANK, BLANK));
        is(0, h.plan());
        int[][] rules = {{0, 12}, {1, 34}, {2, 5}, {3, 6}, {30, 3}};
        for (int[] rule : rules) {
            is(rule[1], h.rule(rule[0]));
        }
        // bytes above 127, the highest and the lowest of a number
        is(20, h.feed(0xff202020, BLANK, BLANK, BLANK, BLANK));
        is(NONE, h.plan());
        is(0, h.fault(1));
        is(20, h.feed(BLANK, BLANK, BLANK, BLANK, 0x202020ff));
        is(NONE, h.plan());
        is(19, h.fault(1));
        is(20, h.feed(MIN, MAX, -1, 0, 1));
        is(NONE, h.plan());
        is(0, h.fault(1));
    }

    @Holds(in = "Promise 2", says = "NONE, and nothing comes, if there would be more than 600.")
    static void feedIsFullAtSixHundred() {
        CommissionHouse h = new CommissionHouse();
        for (int n = 1; n <= 30; n++) {
            is(20 * n, feedBlanks(h));
        }
        is(NONE, feedText(h, "#"));
        is(600, h.end(600));
        is(NONE, h.end(601));
        // a room of 19 bytes is too small for twenty, of twenty it is not
        is(581, h.end(581));
        is(NONE, feedText(h, "#"));
        is(NONE, h.end(582));
        is(581, h.end(581));
        is(580, h.end(580));
        is(600, feedText(h, "quota 7;"));
        is(NONE, feedText(h, "quota 8;"));
        is(0, h.plan());
        is(7, h.rule(0));
    }

    @Holds(in = "Promise 3", says = "The tape has its first n bytes alone: n.")
    static void endCuts() {
        CommissionHouse h = new CommissionHouse();
        is(0, h.end(0));
        is(20, feedText(h, "quota 7;quota 81;#"));
        is(20, h.end(20));
        is(17, h.end(17));
        is(8, h.end(8));
        is(28, feedText(h, "cap 9;"));
        is(14, h.end(14));
        is(0, h.plan());
        is(7, h.rule(0));
        is(9, h.rule(1));
        is(20, feedText(h, "quota 5;"));
        is(0, h.end(0));
        is(0, h.plan());
        is(100, h.rule(0));
    }

    @Holds(in = "Promise 3", says = "NONE if it has not so many, or n is below 0.")
    static void endRefused() {
        CommissionHouse h = new CommissionHouse();
        is(NONE, h.end(1));
        feedText(h, "quota 7;");
        is(NONE, h.end(21));
        is(NONE, h.end(600));
        is(NONE, h.end(MAX));
        is(NONE, h.end(-1));
        is(NONE, h.end(MIN));
        // nothing was cut, and what was cut does not come back
        is(20, h.end(20));
        is(8, h.end(8));
        is(NONE, h.end(9));
        is(0, h.plan());
        is(7, h.rule(0));
        is(NONE, h.end(1));
        refused(NONE, b -> b.end(-1), b -> b.end(7), b -> b.end(601), b -> b.end(MAX), b -> b.end(MIN));
    }

    @Holds(in = "Promise 4", says = "The tape is taken (and is empty then) as a PLAN's text: 0.")
    static void planTakesTheTape() {
        CommissionHouse h = new CommissionHouse();
        tell(h, "quota 7;");
        is(0, h.plan());
        is(NONE, h.end(1));
        is(7, h.rule(0));
        // an empty tape is a text, too: of the plan as at first
        is(0, h.plan());
        is(100, h.rule(0));
        is(20, feedText(h, "quota"));
        is(NONE, h.plan());
        is(NONE, h.end(1));
        is(20, feedBlanks(h));
    }

    @Holds(in = "Promise 4", says = "NONE: a FAULT.")
    static void planWithFault() {
        CommissionHouse h = new CommissionHouse();
        for (String text : new String[] {"quota", "cap 100;", "level 1 sum sum sum sum wide 1 wide 1 wide 1 wide 1 wide 1;"}) {
            tell(h, text);
            is(NONE, h.plan());
        }
    }

    @Holds(in = "Promise 5", says = "Of the latest plan(), what 0: the FAULT, 0 without,")
    static void faultOfTheLatest() {
        CommissionHouse h = new CommissionHouse();
        is(0, h.fault(0));
        String[] texts = {"quota", "", "cap 100;", "cap 9;", "level 1 sum sum sum sum wide 1 wide 1 wide 1 wide 1 wide 1;", " "};
        int[] faults = {1, 0, 2, 0, 3, 0};
        for (int i = 0; i < texts.length; i++) {
            tell(h, texts[i]);
            is(i == 0 ? 0 : faults[i - 1], h.fault(0));
            h.plan();
            is(faults[i], h.fault(0));
        }
    }

    @Holds(in = "Promise 5", says = "1: its place, NONE without.")
    static void placeOfTheLatest() {
        CommissionHouse h = new CommissionHouse();
        is(NONE, h.fault(1));
        tell(h, "zz");
        h.plan();
        is(0, h.fault(1));
        tell(h, "cap 100;");
        is(0, h.fault(1));
        h.plan();
        is(4, h.fault(1));
        h.plan();
        is(NONE, h.fault(1));
    }

    @Holds(in = "Promise 5", says = "NONE for another what.")
    static void faultOfAnotherWhat() {
        CommissionHouse h = new CommissionHouse();
        tell(h, "cap 100;");
        h.plan();
        for (int what : new int[] {-1, 2, 3, 256, MIN, MAX}) {
            is(NONE, h.fault(what));
        }
    }

    // Promise 13.

    @Holds(in = "Promise 13", says = "Of the PLAN, what 0: QUOTA, 1: CAP, 2: VEST, 3: WINDOW,")
    static void plainRules() {
        CommissionHouse h = planned("quota 11;cap 12;vest 5;window 4;");
        is(11, h.rule(0));
        is(12, h.rule(1));
        is(5, h.rule(2));
        is(4, h.rule(3));
    }

    @Holds(in = "Promise 13", says = "10 + r: GOAL of a RANK (0 of RANK 0),")
    static void ruleOfGoals() {
        CommissionHouse h = planned("rank 1 5 0;rank 2 6 0;rank 3 7 0;");
        int[] goals = {0, 5, 6, 7, -2};
        for (int r = 0; r <= 4; r++) {
            is(goals[r], h.rule(10 + r));
        }
    }

    @Holds(in = "Promise 13", says = "20 + r: its LEGS (0 of RANK 0),")
    static void ruleOfLegs() {
        CommissionHouse h = planned("rank 1 5 4;rank 2 6 3;rank 3 7 2;");
        int[] legs = {0, 4, 3, 2, -2};
        for (int r = 0; r <= 4; r++) {
            is(legs[r], h.rule(20 + r));
        }
    }

    @Holds(in = "Promise 13", says = "30 + r: how many LEVELS it OPENS,")
    static void ruleOfOpens() {
        CommissionHouse h = planned("opens 0 5;opens 1 0;opens 2 4;opens 3 2;");
        int[] opens = {5, 0, 4, 2, -2};
        for (int r = 0; r <= 4; r++) {
            is(opens[r], h.rule(30 + r));
        }
    }

    @Holds(in = "Promise 13", says = "40 + n: how many NODES the FORM of LEVEL n has.")
    static void ruleOfNodes() {
        CommissionHouse h = planned("level 1 sum flat 1 flat 1;level 2 sum sum flat 1 flat 1 flat 1;level 3 loyal 1 1;"
            + "level 5 more more flat 1 flat 1 more flat 1 flat 1;");
        int[] nodes = {-2, 3, 5, 1, 1, 7, -2};
        for (int n = 0; n <= 6; n++) {
            is(nodes[n], h.rule(40 + n));
        }
    }

    @Holds(in = "Promise 13", says = "-2: there is none such, or for another what.")
    static void ruleOfAnotherWhat() {
        CommissionHouse h = new CommissionHouse();
        for (int what : new int[] {-1, 4, 9, 14, 19, 24, 29, 34, 39, 40, 46, 50, 51, 256, 266, 65536, MIN, MIN + 11, MAX}) {
            is(-2, h.rule(what));
        }
    }
}
