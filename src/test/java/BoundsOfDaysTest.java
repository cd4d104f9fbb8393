/** The second part of "Terms", LOANS and DAYS: each sentence that names a bound, on both of its sides. */
public final class BoundsOfDaysTest {
    private static final int UNKNOWN = -2, NOT = -4, FULL = -5;
    private static final Checks checks = new Checks();

    public static void main(String[] args) {
        twelveLoans();
        theOthersAreOneLess();
        owedAtFirst();
        dueBehindTheTerm();
        dueOfABirch();
        lendsWhatItHas();
        hasLessByThem();
        burntSoldAndCrossOnesDoNotLend();
        crossByMoreOwed();
        crossByAnyQuarrel();
        growsByRateCut();
        growsByHalfTheRate();
        growsByBranches();
        aMillionAtMost();
        aMillionAtMostOfEachLoan();
        handsTimesAHundred();
        loansAsTheyAreDue();
        ofLikeOnesAsTheyCame();
        tillNothingIsOwed();
        branchesAgain();
        failsOnTheDayDue();
        failsOnce();
        growsThenWorkThenFails();
        thenItIsTheNextDay();
        kindsOverOneAnother();
        fireInAPart();
        fireAndBranches();
        soldLoans();
        soldLoansGrow();
        soldLoansArePaid();
        soldBranches();
        checks.end();
    }

    private static void twelveLoans() {
        checks.sentence("LOANS are 0, 1 .. as they came, 12 at most");
        Run x = checks.wood("oak 50 0 9;twin 50 0 9;hands 0");
        checks.due("none at first", x.loan(0, 0), UNKNOWN);
        for (int i = 0; i < 12; i++) {
            checks.due("borrow " + i, x.borrow(i % 2, i + 1), i);
            checks.due("its BRANCHES", x.loan(i, 1), i + 1);
            checks.due("its TREE", x.loan(i, 0), i % 2);
            checks.due("no LOAN behind it", x.loan(i + 1, 1), UNKNOWN);
            checks.due("count(3)", x.count(3), i + 1);
        }
        checks.refused(x, "a 13th", () -> x.borrow(0, 1), FULL);
        checks.refused(x, "a 13th of the other", () -> x.borrow(1, 1), FULL);
        Run y = checks.wood("oak 50 0 9;twin 50 0 9;part 1 1;hands 0");
        for (int i = 0; i < 11; i++) y.borrow(0, 1);
        y.borrow(1, 1);
        y.fire(1);
        checks.due("a 12th once more", y.borrow(0, 1), 11);
        checks.refused(y, "a 13th once more", () -> y.borrow(0, 1), FULL);
    }

    private static void theOthersAreOneLess() {
        checks.sentence("behind one that goes the others are one less");
        Run x = checks.wood("oak 50 0 9;birch 50 0 9;twin 50 0 8;hands 1");
        x.borrow(0, 5);
        x.borrow(1, 1);
        x.borrow(2, 7);
        x.borrow(0, 8);
        x.days(1);
        int[][] paid = {{0, 5}, {2, 7}, {0, 8}};
        for (int loan = 0; loan < 3; loan++) {
            checks.due("TREE of " + loan, x.loan(loan, 0), paid[loan][0]);
            checks.due("BRANCHES of " + loan, x.loan(loan, 1), paid[loan][1]);
            checks.due("OWED of " + loan, x.loan(loan, 2), 100 * paid[loan][1]);
            checks.due("DUE of " + loan, x.loan(loan, 3), loan == 1 ? 8 : 9);
        }
        checks.due("no LOAN 3", x.loan(3, 0), UNKNOWN);
        checks.due("the next one is", x.borrow(1, 2), 3);
        Run y = checks.wood("oak 9 0 9;birch 9 0 9;part 0 1;hands 0");
        y.borrow(0, 1);
        y.borrow(1, 2);
        y.borrow(0, 3);
        y.borrow(1, 4);
        y.days(2);
        y.fire(1);
        checks.due("LOANS that a FIRE leaves", y.count(3), 2);
        checks.due("the first", y.loan(0, 1), 2);
        checks.due("the second", y.loan(1, 1), 4);
        checks.due("the first FAILED", y.loan(0, 4), 1);
        checks.due("the second FAILED", y.loan(1, 4), 1);
    }

    private static void owedAtFirst() {
        checks.sentence("OWED .. 100 for each BRANCH at first");
        for (int n : new int[] {1, 2, 98, 99}) {
            for (String kind : new String[] {"oak", "birch", "twin", "hollow"}) {
                Run x = checks.wood(kind + " 99 50 1");
                x.borrow(0, n);
                checks.due(kind + " " + n, x.loan(0, 2), 100 * n);
            }
        }
    }

    private static void dueBehindTheTerm() {
        checks.sentence("DUE on the DAY of the loan and TERM");
        for (String kind : new String[] {"oak", "twin", "hollow"}) {
            for (int term : new int[] {1, 2, 99}) {
                Run x = checks.wood(kind + " 9 0 " + term);
                x.borrow(0, 1);
                checks.due(kind + " of " + term, x.loan(0, 3), term);
                x.days(7);
                x.borrow(0, 1);
                checks.due(kind + " of " + term + " on DAY 7", x.loan(x.count(3) - 1, 3), 7 + term);
            }
        }
    }

    private static void dueOfABirch() {
        checks.sentence("a BIRCH's on the DAY behind that of the loan");
        for (int term : new int[] {1, 2, 99}) {
            Run x = checks.wood("birch 9 0 " + term);
            x.borrow(0, 1);
            checks.due("a BIRCH of " + term, x.loan(0, 3), 1);
            x.days(7);
            x.borrow(0, 1);
            checks.due("a BIRCH of " + term + " on DAY 7", x.loan(0, 3), 8);
        }
    }

    private static void lendsWhatItHas() {
        checks.sentence("A TREE LENDS as many BRANCHES as it has at most");
        for (int has : new int[] {1, 2, 50, 98}) {
            Run x = checks.wood("oak " + has + " 0 9");
            checks.refused(x, (has + 1) + " of " + has, () -> x.borrow(0, has + 1), NOT);
            checks.due(has + " of " + has, x.borrow(0, has), 0);
            checks.refused(x, "1 of 0", () -> x.borrow(0, 1), NOT);
        }
        Run none = checks.wood("oak 0 0 9");
        checks.refused(none, "1 of none told", () -> none.borrow(0, 1), NOT);
        checks.due("99 of 99", checks.wood("oak 99 0 9").borrow(0, 99), 0);
    }

    private static void hasLessByThem() {
        checks.sentence("it has less by them then");
        Run x = checks.wood("oak 99 0 9;oak 99 0 9;hands 0");
        int[] takes = {1, 90, 7, 1};
        int[] left = {98, 8, 1, 0};
        for (int i = 0; i < 4; i++) {
            x.borrow(0, takes[i]);
            checks.due("BRANCHES left", x.tree(0, 1), left[i]);
            checks.due("the other one's", x.tree(1, 1), 99);
        }
    }

    private static void burntSoldAndCrossOnesDoNotLend() {
        checks.sentence("if it is not BURNT, not SOLD, not CROSS");
        Run x = checks.wood("oak 9 0 9;oak 9 0 9;oak 9 0 9;oak 9 0 9;part 0 1;quarrel 2 3");
        x.fire(1);
        checks.refused(x, "of a BURNT one", () -> x.borrow(0, 1), NOT);
        x.sell(1, 3);
        checks.refused(x, "of a SOLD one", () -> x.borrow(1, 1), NOT);
        checks.due("of one that is not CROSS yet", x.borrow(2, 1), 0);
        checks.refused(x, "of a CROSS one", () -> x.borrow(3, 1), NOT);
        checks.due("of the other one", x.borrow(2, 1), 1);
        x.days(1);
        checks.due("all is PAID", x.count(3), 0);
        checks.due("not CROSS any more", x.borrow(3, 18), 0);
        checks.refused(x, "the other one is CROSS now", () -> x.borrow(2, 1), NOT);
    }

    private static void crossByMoreOwed() {
        checks.sentence("CROSS is a TREE that quarrels with one to which more is OWED than to itself");
        for (String quarrel : new String[] {"quarrel 0 1", "quarrel 1 0"}) {
            Run x = checks.wood("hollow 9 1 9;oak 9 0 9;oak 9 0 9;" + quarrel + ";hands 0");
            checks.due("like much (0): 0", x.tree(0, 7), 0);
            checks.due("like much (0): 1", x.tree(1, 7), 0);
            x.borrow(0, 1);
            checks.due("100 and 0: 0", x.tree(0, 7), 0);
            checks.due("100 and 0: 1", x.tree(1, 7), 1);
            checks.due("2 does not quarrel", x.tree(2, 7), 0);
        }
        Run x = checks.wood("hollow 9 1 9;oak 9 0 9;oak 9 0 9;quarrel 0 1;hands 0");
        x.borrow(2, 1);
        x.sell(2, 1);
        checks.due("0 and 100: 0", x.tree(0, 7), 1);
        checks.due("0 and 100: 1", x.tree(1, 7), 0);
        Run y = checks.wood("hollow 9 1 9;oak 9 0 9;oak 9 0 9;quarrel 0 1;hands 0");
        y.borrow(0, 1);
        y.borrow(2, 1);
        y.sell(2, 1);
        checks.due("100 and 100: 0", y.tree(0, 7), 0);
        checks.due("100 and 100: 1", y.tree(1, 7), 0);
        y.days(1);
        checks.due("101 and 100: 0", y.tree(0, 7), 0);
        checks.due("101 and 100: 1", y.tree(1, 7), 1);
        checks.refused(y, "borrow from 1", () -> y.borrow(1, 1), NOT);
        checks.due("borrow from 0", y.borrow(0, 1), 2);
    }

    private static void crossByAnyQuarrel() {
        checks.sentence("CROSS is a TREE that quarrels with one to which more is OWED");
        Run x = checks.wood("oak 9 0 9;oak 9 0 9;oak 9 0 9;oak 9 0 9;quarrel 0 1;quarrel 0 2;quarrel 3 0;hands 0");
        for (int tree = 1; tree <= 3; tree++) {
            x.keep(0);
            x.borrow(tree, 1);
            checks.due("by " + tree + " alone", x.tree(0, 7), 1);
            x.back(0);
        }
        x.borrow(0, 1);
        for (int tree = 1; tree <= 3; tree++) checks.due("CROSS with 0: " + tree, x.tree(tree, 7), 1);
        checks.due("0 itself", x.tree(0, 7), 0);
    }

    /** OWED of one LOAN of so many BRANCHES behind so many DAYS in which nothing is worked off. */
    private static int grown(String kind, int rate, int n, int days) {
        Run x = new Run();
        x.writeText(kind + " 99 " + rate + " 99;hands 0");
        x.wood();
        x.borrow(0, n);
        int left = days;
        while (left > 0) {
            x.days(Math.min(left, 99));
            left -= 99;
        }
        return x.loan(0, 2);
    }

    private static void growsByRateCut() {
        checks.sentence("OWED of each LOAN GROWS: by RATE hundredths of it, cut");
        for (String kind : new String[] {"oak", "birch"}) {
            checks.due(kind + " of RATE 0", grown(kind, 0, 99, 99), 9900);
            checks.due(kind + " of RATE 1", grown(kind, 1, 1, 1), 101);
            checks.due(kind + " of RATE 50", grown(kind, 50, 1, 1), 150);
            checks.due(kind + " of RATE 50, 99 BRANCHES", grown(kind, 50, 99, 1), 14850);
            checks.due(kind + ": 1 a DAY below 200", grown(kind, 1, 1, 99), 199);
            checks.due(kind + ": 199 and 1.99, cut", grown(kind, 1, 1, 100), 200);
            checks.due(kind + ": 200 and 2", grown(kind, 1, 1, 101), 202);
            checks.due(kind + ": 150 and 75", grown(kind, 50, 1, 2), 225);
            checks.due(kind + ": 225 and 112.5, cut", grown(kind, 50, 1, 3), 337);
        }
    }

    private static void growsByHalfTheRate() {
        checks.sentence("of a TWIN's by RATE / 2 (cut) hundredths of it, cut");
        int[][] due = {{0, 100}, {1, 100}, {2, 101}, {3, 101}, {4, 102}, {48, 124}, {49, 124}, {50, 125}};
        for (int[] d : due) checks.due("RATE " + d[0], grown("twin", d[0], 1, 1), d[1]);
        checks.due("RATE 1 in 99 DAYS", grown("twin", 1, 99, 99), 9900);
        checks.due("199 and 1.99, cut", grown("twin", 3, 1, 100), 200);
        checks.due("125 and 31.25, cut", grown("twin", 50, 1, 2), 156);
    }

    private static void growsByBranches() {
        checks.sentence("of a HOLLOW's by RATE for each BRANCH of the LOAN");
        checks.due("RATE 0", grown("hollow", 0, 99, 99), 9900);
        checks.due("RATE 1 of 1", grown("hollow", 1, 1, 1), 101);
        checks.due("RATE 1 of 1 in 200 DAYS", grown("hollow", 1, 1, 200), 300);
        checks.due("RATE 50 of 99", grown("hollow", 50, 99, 1), 14850);
        checks.due("RATE 50 of 99, once more", grown("hollow", 50, 99, 2), 19800);
        Run x = checks.wood("hollow 9 7 9;hands 1");
        x.borrow(0, 3);
        x.days(1);
        checks.due("300 and 21, less 100", x.loan(0, 2), 221);
        x.days(1);
        checks.due("as much, though less is OWED", x.loan(0, 2), 142);
    }

    private static void aMillionAtMost() {
        checks.sentence("GROWS .. 1000000 at most");
        checks.due("77 * (100 + 49 * 263)", grown("hollow", 49, 77, 263), 999999);
        checks.due("a DAY later", grown("hollow", 49, 77, 264), 1000000);
        checks.due("80 * (100 + 50 * 247)", grown("hollow", 50, 80, 247), 996000);
        checks.due("just 1000000", grown("hollow", 50, 80, 248), 1000000);
        checks.due("no more than that", grown("hollow", 50, 80, 249), 1000000);
        for (String kind : new String[] {"oak", "birch"}) {
            checks.due(kind + " below it", grown(kind, 50, 99, 11), 856305);
            checks.due(kind + " at it", grown(kind, 50, 99, 12), 1000000);
            checks.due(kind + " stays there", grown(kind, 50, 99, 300), 1000000);
        }
        checks.due("a TWIN below it", grown("twin", 50, 99, 20), 858572);
        checks.due("a TWIN at it", grown("twin", 50, 99, 21), 1000000);
    }

    private static void aMillionAtMostOfEachLoan() {
        checks.sentence("OWED of each LOAN .. 1000000 at most");
        Run x = checks.wood("oak 99 50 99;hands 0");
        for (int i = 0; i < 12; i++) x.borrow(0, 1);
        x.days(99);
        checks.due("OWED to one TREE", x.tree(0, 5), 12000000);
        checks.due("all that is OWED", x.count(6), 12000000);
        checks.due("LATER", x.later(0, 99), 12000000);
        checks.due("LATER, all", x.all(99, 0), 12000000);
        checks.tell(x, "oak 99 50 99;oak 1 0 1;quarrel 0 1;quarrel 0 2", 4);
        x.borrow(1, 2);
        x.borrow(0, 1);
        checks.due("0 is CROSS", x.tree(0, 7), 1);
    }

    private static void handsTimesAHundred() {
        checks.sentence("HANDS times 100 are worked off");
        int[][] due = {{0, 9900}, {1, 9800}, {5, 9400}, {98, 100}, {99, -2}};
        for (int[] d : due) {
            Run x = checks.wood("oak 99 0 99;hands " + d[0]);
            x.borrow(0, 99);
            x.days(1);
            checks.due("HANDS " + d[0], x.loan(0, 2), d[1]);
        }
        Run five = checks.wood("oak 99 0 99");
        five.borrow(0, 99);
        five.days(2);
        checks.due("5 HANDS at first", five.loan(0, 2), 8900);
    }

    private static void loansAsTheyAreDue() {
        checks.sentence("LOANS as they are DUE");
        Run x = checks.wood("oak 9 0 9;oak 9 0 8;oak 9 0 7;birch 9 0 99;hands 1");
        for (int tree = 0; tree < 4; tree++) x.borrow(tree, 1);
        int[] leaves = {3, 2, 1, 0};
        for (int day = 0; day < 4; day++) {
            int last = leaves[day];
            checks.due("not PAID yet: " + last, x.tree(last, 5), 100);
            x.days(1);
            for (int tree = 0; tree < 4; tree++) {
                checks.due("behind DAY " + day + ": OWED to " + tree, x.tree(tree, 5), tree < last ? 100 : 0);
            }
        }
        Run y = checks.wood("oak 9 0 3;oak 9 0 2;hands 1");
        y.borrow(0, 3);
        y.days(1);
        y.borrow(1, 1);
        y.days(1);
        checks.due("DUE on 3 both: the first is worked at", y.loan(0, 2), 100);
        checks.due("the second waits", y.loan(1, 2), 100);
    }

    private static void ofLikeOnesAsTheyCame() {
        checks.sentence("of like ones as they came");
        Run x = checks.wood("oak 9 0 9;oak 9 0 9;oak 9 0 9;hands 1");
        x.borrow(2, 1);
        x.borrow(0, 1);
        x.borrow(1, 1);
        int[][] owed = {{100, 100, 0}, {0, 100, 0}, {0, 0, 0}};
        for (int day = 0; day < 3; day++) {
            x.days(1);
            for (int tree = 0; tree < 3; tree++) checks.due("OWED to " + tree, x.tree(tree, 5), owed[day][tree]);
        }
    }

    private static void tillNothingIsOwed() {
        checks.sentence("each till nothing is OWED: it is PAID, and goes");
        Run x = checks.wood("hollow 9 1 8;hollow 9 0 9;hands 1");
        x.borrow(0, 1);
        x.borrow(1, 1);
        x.days(1);
        checks.due("101 less 100", x.loan(0, 2), 1);
        checks.due("it is there", x.count(3), 2);
        checks.due("nothing for the next", x.loan(1, 2), 100);
        x.days(1);
        checks.due("2 are worked off: it goes", x.count(3), 1);
        checks.due("98 for the next", x.loan(0, 2), 2);
        checks.due("which it is", x.loan(0, 0), 1);
        Run one = checks.wood("hollow 9 33 9;oak 9 0 9;hands 4");
        one.borrow(0, 3);
        one.borrow(1, 1);
        one.days(1);
        checks.due("399 of 400: the last hundredth is for the next", one.loan(0, 2), 99);
        Run y = checks.wood("oak 9 0 9;hands 3");
        for (int i = 0; i < 3; i++) y.borrow(0, 1);
        y.days(1);
        checks.due("three at once", y.count(3), 0);
        Run all = checks.wood("oak 99 0 9;hands 12");
        for (int i = 0; i < 12; i++) all.borrow(0, 1);
        all.days(1);
        checks.due("twelve at once", all.count(3), 0);
        checks.due("their BRANCHES", all.tree(0, 1), 99);
    }

    private static void branchesAgain() {
        checks.sentence("its TREE has its BRANCHES again (99 at most)");
        Run x = checks.wood("oak 99 0 9;hands 50");
        x.borrow(0, 99);
        x.days(1);
        checks.due("none before it is PAID", x.tree(0, 1), 0);
        x.days(1);
        checks.due("all of them", x.tree(0, 1), 99);
        int[][] due = {{96, 98}, {97, 99}, {98, 99}, {99, 99}};
        for (int[] d : due) {
            Run y = checks.wood("oak " + d[0] + " 0 9;oak 2 0 9;hands 2");
            y.borrow(1, 2);
            y.sell(1, 0);
            y.days(1);
            checks.due(d[0] + " and 2", y.tree(0, 1), d[1]);
        }
    }

    private static void failsOnTheDayDue() {
        checks.sentence("Each LOAN that is left and is DUE on this DAY or was ahead FAILS");
        Run x = checks.wood("oak 9 0 2;hands 0");
        x.borrow(0, 1);
        for (int day = 0; day < 4; day++) {
            x.days(1);
            checks.due("FAILED behind DAY " + day, x.loan(0, 4), day < 2 ? 0 : 1);
            checks.due("how many", x.count(5), day < 2 ? 0 : 1);
        }
        Run paid = checks.wood("oak 9 0 2;hands 1");
        paid.borrow(0, 3);
        paid.days(3);
        checks.due("PAID on the DAY on which it is DUE: left", paid.count(3), 0);
        checks.due("PAID on the DAY on which it is DUE: FAILED", paid.count(5), 0);
        Run late = checks.wood("oak 9 0 2;hands 1");
        late.borrow(0, 4);
        late.days(3);
        checks.due("100 are left: FAILED", late.loan(0, 4), 1);
        late.days(1);
        checks.due("PAID a DAY later: left", late.count(3), 0);
        checks.due("PAID a DAY later: FAILED", late.count(5), 1);
        Run one = checks.wood("hollow 9 1 1;hands 1");
        one.borrow(0, 1);
        one.days(1);
        checks.due("1 is left, not DUE yet", one.count(5), 0);
        Run birch = checks.wood("birch 9 0 99;hands 0");
        birch.borrow(0, 1);
        birch.days(1);
        checks.due("a BIRCH's on the DAY of the loan", birch.count(5), 0);
        birch.days(1);
        checks.due("a BIRCH's on the next", birch.count(5), 1);
    }

    private static void failsOnce() {
        checks.sentence("FAILS, once");
        Run x = checks.wood("oak 9 0 1;hands 0");
        x.borrow(0, 1);
        x.borrow(0, 2);
        x.days(1);
        x.borrow(0, 1);
        int[] failed = {2, 3, 3, 3};
        for (int day = 1; day <= 4; day++) {
            x.days(1);
            checks.due("behind DAY " + day, x.count(5), failed[day - 1]);
        }
        x.days(99);
        checks.due("much later", x.count(5), 3);
    }

    private static void growsThenWorkThenFails() {
        checks.sentence("In a DAY: 1 .. GROWS .. 2 .. worked off .. 3 .. FAILS");
        Run x = checks.wood("oak 9 50 9;hands 3");
        x.borrow(0, 2);
        x.days(1);
        checks.due("300 are worked off", x.count(3), 0);
        Run y = checks.wood("oak 9 50 9;hands 2");
        y.borrow(0, 2);
        y.days(1);
        checks.due("300 less 200", y.loan(0, 2), 100);
        y.days(1);
        checks.due("150 less 150", y.count(3), 0);
    }

    private static void thenItIsTheNextDay() {
        checks.sentence("Then it is the next DAY");
        Run x = checks.wood("oak 9 0 1;hands 0");
        checks.due("DAY", x.count(4), 0);
        checks.due("days(1)", x.days(1), 1);
        checks.due("DAY then", x.count(4), 1);
        x.borrow(0, 1);
        checks.due("DUE", x.loan(0, 3), 2);
    }

    private static void kindsOverOneAnother() {
        checks.sentence("TREE (0); OAK (1) under it; BIRCH (2) is an OAK; TWIN (3) is an OAK; HOLLOW (4) is a TREE");
        Run x = checks.wood("oak 0 10 1;birch 0 10 1;twin 0 10 1;hollow 0 10 1");
        int[][] due = {{110, 110, NOT, NOT, NOT}, {110, 110, 110, NOT, NOT}, {105, 105, NOT, 105, NOT},
            {110, NOT, NOT, NOT, 110}};
        for (int tree = 0; tree < 4; tree++) {
            for (int kind = 0; kind < 5; kind++) {
                checks.due("as(" + tree + ", " + kind + ")", x.as(tree, kind), due[tree][kind]);
            }
        }
    }

    private static void fireInAPart() {
        checks.sentence("A FIRE in a PART: TREES there that are neither BURNT nor SOLD are BURNT, their LOANS go");
        Run x = checks.wood("oak 9 0 9;oak 9 0 9;oak 9 0 9;oak 9 0 9;part 1 9;part 2 9;part 3 9;hands 0");
        for (int tree = 0; tree < 4; tree++) x.borrow(tree, tree + 1);
        x.sell(3, 0);
        checks.due("PART 8", x.fire(8), 0);
        checks.due("PART 9", x.fire(9), 2);
        int[] fates = {0, 1, 1, 2};
        int[] owed = {500, 0, 0, 0};
        for (int tree = 0; tree < 4; tree++) {
            checks.due("BURNT, SOLD: " + tree, x.tree(tree, 6), fates[tree]);
            checks.due("OWED to " + tree, x.tree(tree, 5), owed[tree]);
        }
        checks.due("LOANS", x.count(3), 2);
        checks.due("PART 9 once more", x.fire(9), 0);
        checks.due("PART 0", x.fire(0), 1);
        checks.due("no LOANS", x.count(3), 0);
        checks.due("PART 0 once more", x.fire(0), 0);
        Run six = checks.wood("oak 9 0 9;oak 9 0 9;oak 9 0 9;oak 9 0 9;oak 9 0 9;oak 9 0 9;hands 0");
        for (int loan = 0; loan < 12; loan++) six.borrow(loan % 6, 1);
        checks.due("all six", six.fire(0), 6);
        checks.due("all twelve", six.count(3), 0);
        checks.due("nothing is OWED", six.count(6), 0);
    }

    private static void fireAndBranches() {
        checks.sentence("the BRANCHES of these, too; those that such a TREE has itself stay told");
        Run x = checks.wood("oak 9 0 9;oak 9 0 9;oak 0 0 9;part 0 1;part 2 1");
        x.borrow(0, 4);
        checks.due("fire(1)", x.fire(1), 2);
        checks.due("those that it has", x.tree(0, 1), 5);
        checks.due("one that had none", x.tree(2, 1), 0);
        x.days(99);
        checks.due("those lent do not come again", x.tree(0, 1), 5);
    }

    private static void soldLoans() {
        checks.sentence("A TREE that is SOLD to another one: its LOANS are that one's from then on (DUE as they are");
        Run x = checks.wood("oak 9 0 7;birch 9 0 5;oak 9 0 3;hands 0");
        x.borrow(0, 1);
        x.borrow(2, 2);
        x.borrow(0, 3);
        checks.due("sell(0, 1)", x.sell(0, 1), 2);
        int[][] due = {{1, 1, 100, 7, 0}, {2, 2, 200, 3, 0}, {1, 3, 300, 7, 0}};
        for (int loan = 0; loan < 3; loan++) {
            for (int what = 0; what < 5; what++) {
                checks.due("loan(" + loan + ", " + what + ")", x.loan(loan, what), due[loan][what]);
            }
        }
        checks.due("sell(1, 2)", x.sell(1, 2), 2);
        checks.due("OWED to the last one", x.tree(2, 5), 600);
        x.days(7);
        checks.due("not FAILED before DAY 7", x.loan(0, 4), 0);
        x.days(1);
        checks.due("FAILED on DAY 7", x.loan(0, 4), 1);
        Run none = checks.wood("oak 9 0 9;oak 9 0 9");
        checks.due("one without LOANS", none.sell(0, 1), 0);
        Run all = checks.wood("oak 99 0 9;oak 9 0 9;hands 0");
        for (int i = 0; i < 12; i++) all.borrow(0, 1);
        checks.due("one with all twelve", all.sell(0, 1), 12);
    }

    private static void soldLoansGrow() {
        checks.sentence("they GROW by its KIND and RATE");
        String[] buyers = {"oak 9 10 9", "birch 9 10 9", "twin 9 10 9", "hollow 9 10 9"};
        int[] due = {330, 330, 315, 320};
        for (int i = 0; i < 4; i++) {
            Run x = checks.wood("oak 9 50 9;" + buyers[i] + ";hands 0");
            x.borrow(0, 2);
            x.days(1);
            checks.due("ahead of the sale", x.loan(0, 2), 300);
            x.sell(0, 1);
            checks.due("at the sale", x.loan(0, 2), 300);
            x.days(1);
            checks.due("by " + buyers[i], x.loan(0, 2), due[i]);
        }
    }

    private static void soldLoansArePaid() {
        checks.sentence("as they are PAID it has the BRANCHES");
        Run x = checks.wood("oak 9 0 9;oak 9 0 9;hands 4");
        x.borrow(0, 4);
        x.sell(0, 1);
        checks.due("ahead", x.tree(1, 1), 14);
        x.days(1);
        checks.due("PAID", x.tree(1, 1), 18);
        checks.due("the SOLD one has none", x.tree(0, 1), 0);
    }

    private static void soldBranches() {
        checks.sentence("its BRANCHES, too (99 at most)");
        int[][] due = {{0, 0, 0}, {0, 99, 99}, {99, 0, 99}, {98, 1, 99}, {98, 2, 99}, {99, 99, 99}, {50, 48, 98}, {1, 98, 99}};
        for (int[] d : due) {
            Run x = checks.wood("oak " + d[0] + " 0 9;oak " + d[1] + " 0 9");
            x.sell(1, 0);
            checks.due(d[0] + " and " + d[1], x.tree(0, 1), d[2]);
            checks.due("the SOLD one's", x.tree(1, 1), 0);
        }
    }
}
