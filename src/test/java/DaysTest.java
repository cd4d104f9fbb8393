/** Promises 9 to 14: days. */
public final class DaysTest {
    private static final int UNKNOWN = -2, OUTSIDE = -3, NOT = -4, FULL = -5;
    private static final Checks checks = new Checks();

    public static void main(String[] args) {
        promise9Borrow();
        promise9WhoDoesNotLend();
        promise9Full();
        promise10Growth();
        promise10MostOwed();
        promise10Work();
        promise10Failing();
        promise10TheLastDay();
        promise11Fire();
        promise12Sell();
        promise12SoldLoans();
        promise13And14KeepAndBack();
        checks.end();
    }

    private static void promise9Borrow() {
        Run x = checks.wood("oak 99 10 9;birch 30 5 40");
        checks.due("borrow(0, 98)", x.borrow(0, 98), 0);
        checks.due("BRANCHES less", x.tree(0, 1), 1);
        checks.due("borrow(1, 30)", x.borrow(1, 30), 1);
        checks.due("none left", x.tree(1, 1), 0);
        checks.due("borrow(0, 1)", x.borrow(0, 1), 2);
        checks.due("OWED of the first", x.loan(0, 2), 9800);
        checks.due("DUE behind its TERM", x.loan(2, 3), 9);
        checks.due("a BIRCH's DUE on the next DAY", x.loan(1, 3), 1);
        checks.refused(x, "borrow(2, 1)", () -> x.borrow(2, 1), UNKNOWN);
        checks.refused(x, "borrow(-1, 0)", () -> x.borrow(-1, 0), UNKNOWN);
        checks.refused(x, "borrow(0, 0)", () -> x.borrow(0, 0), OUTSIDE);
        checks.refused(x, "borrow(0, -1)", () -> x.borrow(0, -1), OUTSIDE);
        checks.refused(x, "borrow(0, 100)", () -> x.borrow(0, 100), OUTSIDE);
        checks.refused(x, "borrow(0, 1) of none", () -> x.borrow(0, 1), NOT);
        checks.due("borrow(MAX, MAX)", x.borrow(Integer.MAX_VALUE, Integer.MAX_VALUE), UNKNOWN);
        checks.due("borrow(0, MIN)", x.borrow(0, Integer.MIN_VALUE), OUTSIDE);
        Run y = checks.wood("oak 99 10 9");
        checks.due("borrow(0, 99)", y.borrow(0, 99), 0);
    }

    private static void promise9WhoDoesNotLend() {
        Run x = checks.wood("oak 9 0 9;oak 9 0 9;oak 9 0 9;quarrel 1 0;part 2 3");
        checks.due("borrow(0, 4)", x.borrow(0, 4), 0);
        checks.refused(x, "borrow from a CROSS one", () -> x.borrow(1, 1), NOT);
        checks.refused(x, "borrow more than there are", () -> x.borrow(0, 6), NOT);
        x.fire(3);
        checks.refused(x, "borrow from a BURNT one", () -> x.borrow(2, 1), NOT);
        Run y = checks.wood("oak 9 0 9;oak 9 0 9");
        y.sell(0, 1);
        checks.refused(y, "borrow from a SOLD one", () -> y.borrow(0, 1), NOT);
        checks.due("borrow from both's", y.borrow(1, 18), 0);
    }

    private static void promise9Full() {
        Run x = checks.wood("oak 20 0 9;hollow 1 0 9;hands 1");
        for (int i = 0; i < 12; i++) checks.due("loan " + i, x.borrow(0, 1), i);
        checks.refused(x, "a 13th", () -> x.borrow(0, 1), FULL);
        checks.refused(x, "a 13th, not so many", () -> x.borrow(0, 9), NOT);
        x.days(1);
        checks.due("behind one PAID", x.borrow(1, 1), 11);
    }

    private static void promise10Growth() {
        Run x = checks.wood("oak 9 7 99;birch 9 7 99;twin 9 7 99;hollow 9 7 99;hands 0");
        for (int tree = 0; tree < 4; tree++) x.borrow(tree, 3);
        int[][] due = {{321, 343}, {321, 343}, {309, 318}, {321, 342}};
        for (int day = 0; day < 2; day++) {
            checks.due("days(1)", x.days(1), day + 1);
            for (int loan = 0; loan < 4; loan++) checks.due("OWED, cut", x.loan(loan, 2), due[loan][day]);
        }
        Run y = checks.wood("twin 9 1 9;oak 9 0 9;hollow 9 0 9;hands 0");
        for (int tree = 0; tree < 3; tree++) y.borrow(tree, 9);
        y.days(50);
        checks.due("a TWIN of RATE 1 and RATES 0 do not GROW", y.count(6), 2700);
    }

    private static void promise10MostOwed() {
        Run x = checks.wood("oak 99 50 99;hands 0");
        x.borrow(0, 99);
        x.days(11);
        checks.due("still under it", x.loan(0, 2), 856305);
        x.days(1);
        checks.due("1000000 at most", x.loan(0, 2), 1000000);
        x.days(99);
        checks.due("no more later", x.loan(0, 2), 1000000);
        Run y = checks.wood("hollow 99 50 99;hands 0");
        y.borrow(0, 99);
        for (int i = 0; i < 2; i++) y.days(99);
        checks.due("a HOLLOW's under it", y.loan(0, 2), 990000);
        y.days(3);
        checks.due("a HOLLOW's 1000000 at most", y.loan(0, 2), 1000000);
    }

    private static void promise10Work() {
        Run x = checks.wood("oak 9 0 9;oak 9 0 5;oak 9 0 9;birch 9 0 99;hands 4");
        x.borrow(0, 3);
        x.borrow(1, 2);
        x.borrow(2, 3);
        x.borrow(3, 1);
        x.days(1);
        checks.due("the BIRCH's and the one DUE on 5 are PAID", x.count(3), 2);
        checks.due("of like ones the first", x.loan(0, 2), 200);
        checks.due("the other one waits", x.loan(1, 2), 300);
        checks.due("the others are one less", x.loan(1, 0), 2);
        checks.due("BRANCHES again", x.tree(1, 1), 9);
        checks.due("none again before it is PAID", x.tree(0, 1), 6);
        x.days(1);
        checks.due("the rest of a DAY goes on to the next", x.loan(0, 2), 100);
        checks.due("one is left", x.count(3), 1);
        x.days(1);
        checks.due("all PAID", x.count(3), 0);
        checks.due("none FAILED", x.count(5), 0);
        Run y = checks.wood("oak 9 50 9;hands 99");
        y.borrow(0, 9);
        checks.due("it GROWS ahead of the work", y.all(1, 0), 0);
        y.days(1);
        checks.due("PAID", y.count(3), 0);
        Run v = checks.wood("hollow 9 33 9;hands 4");
        v.borrow(0, 3);
        v.borrow(0, 3);
        v.days(1);
        checks.due("399 of 400 are worked off, and 1 of the next", v.loan(0, 2), 398);
        Run z = checks.wood("oak 99 0 9;oak 20 0 9;hands 20");
        z.borrow(1, 20);
        z.sell(1, 0);
        z.days(1);
        checks.due("99 BRANCHES at most", z.tree(0, 1), 99);
    }

    private static void promise10Failing() {
        Run x = checks.wood("oak 9 0 2;birch 9 0 9;hands 0");
        x.borrow(0, 1);
        x.borrow(1, 1);
        x.days(1);
        checks.due("DAY 0: none", x.count(5), 0);
        x.days(1);
        checks.due("DAY 1: the BIRCH's", x.count(5), 1);
        checks.due("it FAILED", x.loan(1, 4), 1);
        checks.due("the other did not", x.loan(0, 4), 0);
        x.days(1);
        checks.due("DAY 2: the OAK's", x.count(5), 2);
        x.days(9);
        checks.due("each once", x.count(5), 2);
        Run y = checks.wood("oak 9 0 2;hands 3");
        y.borrow(0, 9);
        y.days(3);
        checks.due("PAID on the DAY on which it is DUE", y.count(5), 0);
        checks.due("none left", y.count(3), 0);
        Run z = checks.wood("oak 9 0 1;hands 4");
        z.borrow(0, 9);
        z.days(3);
        checks.due("PAID behind that", z.count(3), 0);
        checks.due("it has FAILED all the same", z.count(5), 1);
        z.borrow(0, 1);
        checks.due("a new LOAN has not FAILED", z.loan(0, 4), 0);
        Run v = checks.wood("oak 9 0 9;birch 9 0 9;hands 0");
        v.borrow(0, 1);
        v.borrow(1, 1);
        v.days(2);
        v.sell(0, 1);
        checks.tell(v, "part 0 1", 1);
        v.borrow(0, 1);
        v.borrow(1, 1);
        v.days(2);
        v.fire(1);
        checks.due("the one that FAILED is one less", v.loan(0, 4), 1);
        Run w = checks.wood("oak 9 0 1;part 0 1;hands 0");
        w.borrow(0, 9);
        w.days(2);
        w.fire(1);
        checks.due("burnt: it has FAILED all the same", w.count(5), 1);
    }

    private static void promise10TheLastDay() {
        Run x = checks.wood("oak 9 0 99;hands 0");
        for (int n : new int[] {0, 100, -1, Integer.MIN_VALUE, Integer.MAX_VALUE}) {
            checks.refused(x, "days(" + n + ")", () -> x.days(n), OUTSIDE);
        }
        for (int i = 1; i <= 100; i++) checks.due("days(99)", x.days(99), 99 * i);
        x.borrow(0, 9);
        checks.due("DUE", x.loan(0, 3), 9999);
        checks.refused(x, "to DAY 9900 and 100", () -> x.days(100), OUTSIDE);
        checks.due("to DAY 9998", x.days(98), 9998);
        checks.refused(x, "to DAY 10000", () -> x.days(2), FULL);
        checks.due("to DAY 9999", x.days(1), 9999);
        checks.refused(x, "behind the last DAY", () -> x.days(1), FULL);
        checks.due("not FAILED yet", x.count(5), 0);
        checks.due("it is foretold all the same", x.all(1, 1), 1);
    }

    private static void promise11Fire() {
        Run x = checks.wood("oak 9 0 9;oak 9 0 9;oak 9 0 9;oak 9 0 9;part 1 9;part 2 9;part 3 9;hands 0");
        x.borrow(0, 1);
        x.borrow(1, 2);
        x.borrow(2, 3);
        x.borrow(0, 4);
        x.sell(3, 0);
        checks.refused(x, "fire(10)", () -> x.fire(10), OUTSIDE);
        checks.refused(x, "fire(-1)", () -> x.fire(-1), OUTSIDE);
        checks.due("fire where none stand", x.fire(5), 0);
        checks.due("fire(9)", x.fire(9), 2);
        checks.due("LOANS left", x.count(3), 2);
        checks.due("the first", x.loan(0, 1), 1);
        checks.due("the second", x.loan(1, 1), 4);
        checks.due("BURNT", x.tree(1, 6), 1);
        checks.due("SOLD is not BURNT", x.tree(3, 6), 2);
        checks.due("not elsewhere", x.tree(0, 6), 0);
        checks.due("what it has stays told", x.tree(1, 1), 7);
        checks.due("fire(9) again", x.fire(9), 0);
        checks.due("fire(0)", x.fire(0), 1);
        checks.due("no LOANS", x.count(3), 0);
        x.days(9);
        checks.due("lent BRANCHES are gone", x.tree(2, 1), 6);
    }

    private static void promise12Sell() {
        Run x = checks.wood("oak 90 0 9;oak 20 0 9;oak 9 0 9;oak 5 0 9;part 3 1");
        checks.refused(x, "sell(4, 0)", () -> x.sell(4, 0), UNKNOWN);
        checks.refused(x, "sell(0, 4)", () -> x.sell(0, 4), UNKNOWN);
        checks.refused(x, "sell(-1, -1)", () -> x.sell(-1, -1), UNKNOWN);
        checks.refused(x, "sell(4, 4)", () -> x.sell(4, 4), UNKNOWN);
        checks.refused(x, "sell(0, 0)", () -> x.sell(0, 0), OUTSIDE);
        x.borrow(1, 5);
        x.borrow(2, 1);
        x.borrow(1, 6);
        checks.due("sell(1, 0)", x.sell(1, 0), 2);
        checks.due("SOLD", x.tree(1, 6), 2);
        checks.due("its BRANCHES, too", x.tree(0, 1), 99);
        checks.due("OWED to the other", x.tree(0, 5), 1100);
        checks.due("none OWED to it", x.tree(1, 5), 0);
        checks.due("a LOAN of another stays", x.loan(1, 0), 2);
        checks.refused(x, "sell a SOLD one", () -> x.sell(1, 0), NOT);
        checks.refused(x, "sell to a SOLD one", () -> x.sell(0, 1), NOT);
        checks.refused(x, "sell a SOLD one to itself", () -> x.sell(1, 1), OUTSIDE);
        x.fire(1);
        checks.refused(x, "sell a BURNT one", () -> x.sell(3, 0), NOT);
        checks.refused(x, "sell to a BURNT one", () -> x.sell(0, 3), NOT);
        checks.due("sell once more", x.sell(0, 2), 2);
        checks.due("three LOANS", x.tree(2, 5), 1200);
        checks.due("more than 99 are 99", x.tree(2, 1), 99);
    }

    private static void promise12SoldLoans() {
        Run x = checks.wood("oak 9 50 7;hollow 2 3 99;twin 4 20 99;hands 0");
        x.borrow(0, 2);
        x.days(1);
        checks.due("OWED ahead", x.loan(0, 2), 300);
        x.sell(0, 1);
        checks.due("DUE as it is", x.loan(0, 3), 7);
        x.days(1);
        checks.due("it GROWS as a HOLLOW's", x.loan(0, 2), 306);
        x.sell(1, 2);
        x.days(1);
        checks.due("it GROWS as a TWIN's", x.loan(0, 2), 336);
        checks.due("BRANCHES", x.tree(2, 1), 13);
        checks.tell(x, "hands 4", 1);
        x.borrow(0, 2);
        x.sell(0, 1);
        x.days(1);
        checks.due("as it is PAID the other has the BRANCHES", x.tree(1, 1), 11);
        checks.due("the SOLD one has none", x.tree(0, 1), 0);
    }

    private static void promise13And14KeepAndBack() {
        Run x = checks.wood("oak 9 10 2;oak 9 10 2;oak 9 10 2;part 2 1;quarrel 0 1;hands 1");
        checks.refused(x, "keep(2)", () -> x.keep(2), UNKNOWN);
        checks.refused(x, "keep(-1)", () -> x.keep(-1), UNKNOWN);
        checks.refused(x, "back(2)", () -> x.back(2), UNKNOWN);
        checks.refused(x, "back(-1)", () -> x.back(-1), UNKNOWN);
        checks.refused(x, "back(1) of nothing", () -> x.back(1), NOT);
        x.borrow(0, 5);
        x.borrow(2, 5);
        x.days(3);
        checks.due("keep(0)", x.keep(0), 3);
        checks.refused(x, "back(1) of nothing, 0 being kept", () -> x.back(1), NOT);
        String atThree = x.now();
        x.sell(1, 0);
        x.fire(1);
        x.borrow(0, 3);
        x.days(4);
        checks.due("keep(1)", x.keep(1), 7);
        String atSeven = x.now();
        x.days(20);
        checks.due("back(0)", x.back(0), 3);
        checks.holds("as it was at 3", x.now().equals(atThree));
        x.days(20);
        checks.due("back(0) again", x.back(0), 3);
        checks.holds("as it was at 3, again", x.now().equals(atThree));
        checks.due("back(1)", x.back(1), 7);
        checks.holds("as it was at 7", x.now().equals(atSeven));
        checks.due("keep(0) anew", x.keep(0), 7);
        x.days(1);
        checks.due("back(0) anew", x.back(0), 7);
        x.writeText("hands 9");
        checks.due("back(1) leaves THE TEXT", x.back(1), 7);
        checks.due("bytes", x.count(7), 7);
        x.erase();
        checks.tell(x, "hands 2", 1);
        checks.refused(x, "back(0) behind a text", () -> x.back(0), NOT);
        checks.due("keep(1) behind it", x.keep(1), 0);
        checks.refused(x, "back(0), 1 being kept", () -> x.back(0), NOT);
    }
}
