/** The third part of "Terms", what is FORETOLD: each sentence that names a bound, on both of its sides. */
public final class BoundsForetoldTest {
    private static final int NONE = -1, OUTSIDE = -3;
    private static final Checks checks = new Checks();

    public static void main(String[] args) {
        nothingChanges();
        ifNobodyBorrows();
        laterInSoManyDays();
        laterSinceTheLastText();
        clearInSoManyDays();
        clearNone();
        hutOfBranches();
        hutInDays();
        hutFromEachThatLendsNow();
        hutIsLeast();
        hutOfSeveralRows();
        hutNone();
        enoughForDays();
        enoughHands();
        enoughNone();
        enoughOfThoseThatHaveNotYet();
        ridByTenths();
        ridOfEachPart();
        grandsonOfStandingTrees();
        grandsonInDays();
        toWhomOfBranchesAndDays();
        toWhomOfStandingTrees();
        toWhomByBits();
        lowestTerms();
        checks.end();
    }

    /** One TREE of each KIND, one SOLD, one BURNT, LOANS of three, something kept, a TEXT begun. */
    private static Run busyWood() {
        Run x = checks.wood("oak 20 10 2;birch 20 5 9;twin 20 9 9;hollow 20 7 9;oak 5 1 9;oak 5 1 9;part 5 3;quarrel 0 3;hands 1");
        x.borrow(0, 4);
        x.borrow(1, 2);
        x.keep(0);
        x.days(3);
        x.borrow(2, 6);
        x.sell(4, 2);
        x.fire(3);
        x.keep(1);
        x.writeText("hands 7");
        return x;
    }

    private static void nothingChanges() {
        checks.sentence("FORETOLD .. (nothing changes)");
        Run x = busyWood();
        checks.unchanged(x, "later(0, 99)", () -> x.later(0, 99), 0);
        checks.unchanged(x, "all(99, 0)", () -> x.all(99, 0), 0);
        checks.unchanged(x, "all(99, 1)", () -> x.all(99, 1), 3);
        checks.unchanged(x, "clear()", x::clear, 16);
        checks.unchanged(x, "hut(5, 30, NONE)", () -> x.hut(5, 30, NONE), 1598);
        checks.unchanged(x, "hut(5, 30, 2)", () -> x.hut(5, 30, 2), 5);
        checks.unchanged(x, "enough(99)", () -> x.enough(99), 2);
        checks.unchanged(x, "rid(5, 1)", () -> x.rid(5, 1), 2);
        checks.unchanged(x, "grandson(99)", () -> x.grandson(99), 85);
        checks.unchanged(x, "toWhom(1, 1, 107)", () -> x.toWhom(1, 1, 107), 8);
        checks.unchanged(x, "as(0, 1)", () -> x.as(0, 1), 110);
        checks.unchanged(x, "tree(0, 5)", () -> x.tree(0, 5), 447);
        checks.unchanged(x, "loan(0, 2)", () -> x.loan(0, 2), 447);
        checks.unchanged(x, "count(6)", () -> x.count(6), 1047);
        checks.unchanged(x, "fault()", x::fault, NONE);
    }

    private static void ifNobodyBorrows() {
        checks.sentence("FORETOLD, if nobody borrows, nothing burns, nothing is SOLD");
        Run x = busyWood();
        for (int t = 1; t <= 5; t++) {
            int sum = 0;
            for (int tree = 0; tree < 6; tree++) sum += x.later(tree, t);
            checks.due("all that is OWED in " + t, x.all(t, 0), sum);
            int foretold = x.all(1, 0);
            x.days(1);
            checks.due("all that is OWED as a DAY has gone", x.count(6), foretold);
        }
    }

    private static void laterInSoManyDays() {
        checks.sentence("LATER: what is OWED to a TREE in t DAYS (0 .. 99), all that is OWED");
        Run x = checks.wood("hollow 9 1 9;hollow 9 2 9;hands 0");
        x.borrow(0, 1);
        x.borrow(1, 1);
        for (int t : new int[] {0, 1, 98, 99}) {
            checks.due("later(0, " + t + ")", x.later(0, t), 100 + t);
            checks.due("later(1, " + t + ")", x.later(1, t), 100 + 2 * t);
            checks.due("all(" + t + ", 0)", x.all(t, 0), 200 + 3 * t);
        }
        for (int t : new int[] {-1, 100}) {
            checks.refused(x, "later(0, " + t + ")", () -> x.later(0, t), OUTSIDE);
            checks.refused(x, "all(" + t + ", 0)", () -> x.all(t, 0), OUTSIDE);
        }
        x.days(50);
        checks.due("now, on DAY 50", x.later(0, 0), 150);
        checks.due("99 DAYS on", x.later(0, 99), 249);
    }

    private static void laterSinceTheLastText() {
        checks.sentence("LATER: .. LOANS that have FAILED since the last text");
        Run x = checks.wood("oak 9 0 98;oak 9 0 99;oak 9 0 1;hands 0");
        checks.due("none at first", x.all(0, 1), 0);
        x.borrow(0, 1);
        x.borrow(1, 1);
        x.borrow(2, 1);
        int[][] due = {{0, 0}, {1, 0}, {2, 1}, {98, 1}, {99, 2}};
        for (int[] d : due) checks.due("all(" + d[0] + ", 1)", x.all(d[0], 1), d[1]);
        x.days(2);
        checks.due("one has FAILED by now", x.all(0, 1), 1);
        checks.due("all three in 98 DAYS", x.all(98, 1), 3);
        checks.due("not yet in 97", x.all(97, 1), 2);
        checks.tell(x, "hands 0", 1);
        checks.due("none behind a text", x.all(99, 1), 0);
    }

    private static void clearInSoManyDays() {
        checks.sentence("CLEAR: in how many DAYS (0 .. 999) there are no LOANS first");
        Run x = checks.wood("oak 99 0 9;hands 1");
        checks.due("no LOANS", x.clear(), 0);
        x.borrow(0, 1);
        checks.due("1 DAY's work", x.clear(), 1);
        x.borrow(0, 1);
        checks.due("2 DAYS' work", x.clear(), 2);
        x.borrow(0, 97);
        checks.due("99 DAYS' work", x.clear(), 99);
        Run y = checks.wood("oak 99 0 9;oak 99 0 9;oak 99 0 9;oak 99 0 9;oak 99 0 9;oak 99 0 9;hands 1");
        for (int tree = 0; tree < 6; tree++) y.borrow(tree, 99);
        checks.due("594 DAYS' work", y.clear(), 594);
    }

    private static void clearNone() {
        checks.sentence("CLEAR: .. (0 .. 999) ..; none");
        Run never = checks.wood("oak 9 0 9;hands 0");
        never.borrow(0, 1);
        checks.due("without HANDS", never.clear(), NONE);
        Run same = checks.wood("oak 9 50 9;hands 1");
        same.borrow(0, 2);
        checks.due("it GROWS as fast: 200, 200 ..", same.all(99, 0), 200);
        checks.due("it GROWS as fast", same.clear(), NONE);
        // 9100 at 9 a DAY: on the 1012th DAY nothing is left.
        Run x = checks.wood("hollow 99 1 9;hands 1");
        x.borrow(0, 91);
        x.days(11);
        checks.due("1001 DAYS", x.clear(), NONE);
        x.days(1);
        checks.due("1000 DAYS", x.clear(), NONE);
        x.days(1);
        checks.due("999 DAYS", x.clear(), 999);
        x.days(1);
        checks.due("998 DAYS", x.clear(), 998);
    }

    private static void hutOfBranches() {
        checks.sentence("HUT of b BRANCHES (1 .. 99) now");
        Run x = checks.wood("oak 99 0 9;oak 99 1 9");
        for (int b : new int[] {1, 2, 98, 99}) {
            checks.due("OWED for " + b, x.hut(b, 1, NONE), 100 * b);
            checks.due("from 0 of " + b, x.hut(b, 1, 0), b);
            checks.due("from 1 of " + b, x.hut(b, 1, 1), 0);
        }
        for (int b : new int[] {0, 100, -1}) {
            checks.refused(x, "hut(" + b + ", 1, NONE)", () -> x.hut(b, 1, NONE), OUTSIDE);
            checks.refused(x, "hut(" + b + ", 1, 0)", () -> x.hut(b, 1, 0), OUTSIDE);
        }
    }

    private static void hutInDays() {
        checks.sentence("as each GROWS in t DAYS (0 .. 30), if nothing is worked off");
        Run x = checks.wood("hollow 9 3 9;hands 99");
        for (int t : new int[] {0, 1, 29, 30}) checks.due("hut(2, " + t + ", NONE)", x.hut(2, t, NONE), 200 + 6 * t);
        for (int t : new int[] {-1, 31}) {
            checks.refused(x, "hut(2, " + t + ", NONE)", () -> x.hut(2, t, NONE), OUTSIDE);
            checks.refused(x, "hut(2, " + t + ", 0)", () -> x.hut(2, t, 0), OUTSIDE);
        }
        Run most = checks.wood("oak 99 50 9");
        checks.due("below 1000000", most.hut(99, 11, NONE), 856305);
        checks.due("1000000 at most", most.hut(99, 12, NONE), 1000000);
        checks.due("in 30 DAYS, too", most.hut(99, 30, NONE), 1000000);
        Run six = checks.wood("oak 20 50 9;oak 20 50 9;oak 20 50 9;oak 20 50 9;oak 20 50 9;oak 20 50 9");
        checks.due("five at 1000000 each", six.hut(99, 30, NONE), 5000000);
    }

    private static void hutFromEachThatLendsNow() {
        checks.sentence("how many from each TREE that LENDS now");
        Run x = checks.wood("oak 9 0 9;oak 9 1 9;oak 9 2 9;oak 9 3 9;oak 9 4 9;quarrel 4 3;part 0 1;hands 0");
        x.fire(1);
        x.sell(1, 2);
        x.borrow(4, 1);
        int[] due = {0, 0, 18, 0, 8};
        checks.due("26 of them", x.hut(26, 0, NONE), 2600);
        for (int tree = 0; tree < 5; tree++) checks.due("from " + tree, x.hut(26, 0, tree), due[tree]);
        checks.due("none behind 26", x.hut(27, 0, NONE), NONE);
        Run y = checks.wood("oak 9 0 9;oak 9 0 9;quarrel 0 1;hands 0");
        checks.due("who LENDS now, whoever is CROSS by it", y.hut(18, 0, NONE), 1800);
    }

    private static void hutIsLeast() {
        checks.sentence("so that OWED .. is least, together");
        Run x = checks.wood("oak 5 10 9;birch 5 9 9;twin 5 16 9;hollow 5 7 9");
        int[] sums = {107, 535, 643, 1075, 1184, 1620, 1730, 2170};
        int[] b = {1, 5, 6, 10, 11, 15, 16, 20};
        for (int i = 0; i < b.length; i++) checks.due("OWED for " + b[i], x.hut(b[i], 1, NONE), sums[i]);
        int[] from = {1, 5, 5, 5};
        for (int tree = 0; tree < 4; tree++) checks.due("16 from " + tree, x.hut(16, 1, tree), from[tree]);
    }

    private static void hutOfSeveralRows() {
        checks.sentence("of several rows the first (by TREES, less first)");
        Run x = checks.wood("oak 9 0 9;twin 9 1 9;hollow 9 0 9");
        int[][] due = {{1, 0, 0, 1}, {9, 0, 0, 9}, {10, 0, 1, 9}, {18, 0, 9, 9}, {19, 1, 9, 9}, {27, 9, 9, 9}};
        for (int[] d : due) {
            for (int tree = 0; tree < 3; tree++) {
                checks.due(d[0] + " from " + tree, x.hut(d[0], 30, tree), d[1 + tree]);
            }
        }
    }

    private static void hutNone() {
        checks.sentence("none: they do not LEND so many");
        Run x = checks.wood("oak 3 0 9;oak 4 0 9");
        checks.due("7 of 7", x.hut(7, 0, NONE), 700);
        checks.due("8 of 7", x.hut(8, 0, NONE), NONE);
        for (int tree = 0; tree < 2; tree++) checks.due("8 of 7, from " + tree, x.hut(8, 0, tree), NONE);
        Run none = new Run();
        checks.due("no TREES", none.hut(1, 0, NONE), NONE);
        Run bare = checks.wood("oak 0 0 9");
        checks.due("no BRANCHES", bare.hut(1, 0, NONE), NONE);
        checks.due("no BRANCHES, from 0", bare.hut(1, 0, 0), NONE);
        Run many = checks.wood("oak 49 0 9;oak 49 0 9");
        checks.due("98 of 98", many.hut(98, 0, NONE), 9800);
        checks.due("99 of 98", many.hut(99, 0, NONE), NONE);
    }

    private static void enoughForDays() {
        checks.sentence("ENOUGH for t DAYS (1 .. 99)");
        Run x = checks.wood("oak 99 0 98;oak 99 0 1;hands 0");
        x.borrow(1, 4);
        x.borrow(0, 95);
        checks.due("1 DAY: none is DUE", x.enough(1), 0);
        checks.due("2 DAYS: 400 in 2", x.enough(2), 2);
        checks.due("98 DAYS", x.enough(98), 2);
        Run last = checks.wood("oak 99 0 98;hands 0");
        last.borrow(0, 99);
        checks.due("98 DAYS: not DUE yet", last.enough(98), 0);
        checks.due("99 DAYS: 9900 in 99", last.enough(99), 1);
        for (int t : new int[] {0, 100, -1}) checks.refused(x, "enough(" + t + ")", () -> x.enough(t), OUTSIDE);
    }

    private static void enoughHands() {
        checks.sentence("the fewest HANDS (0 .. 99) in place of those told");
        for (int hands : new int[] {0, 5, 99}) {
            Run x = checks.wood("birch 99 0 9;birch 99 0 9;hands " + hands);
            checks.due("no LOANS", x.enough(99), 0);
            x.borrow(0, 1);
            checks.due("100 in 2 DAYS", x.enough(2), 1);
            x.borrow(0, 1);
            checks.due("200 in 2 DAYS", x.enough(2), 1);
            x.borrow(0, 1);
            checks.due("300 in 2 DAYS", x.enough(2), 2);
            x.borrow(0, 96);
            checks.due("9900 in 2 DAYS", x.enough(2), 50);
            x.borrow(1, 97);
            checks.due("19600 in 2 DAYS", x.enough(2), 98);
            x.borrow(1, 2);
            checks.due("19800 in 2 DAYS", x.enough(2), 99);
            checks.due("HANDS are as told", x.count(2), hands);
        }
    }

    private static void enoughNone() {
        checks.sentence("ENOUGH ..: the fewest HANDS (0 .. 99) ..; none");
        Run x = checks.wood("birch 99 0 9;birch 99 0 9;birch 1 0 9;hands 99");
        x.borrow(0, 99);
        x.borrow(1, 99);
        checks.due("19800 in 2 DAYS", x.enough(2), 99);
        x.borrow(2, 1);
        checks.due("19900 in 2 DAYS", x.enough(2), NONE);
        checks.due("1 DAY: none is DUE", x.enough(1), 0);
    }

    private static void enoughOfThoseThatHaveNotYet() {
        checks.sentence("by which no LOAN FAILS that has not yet");
        Run x = checks.wood("birch 9 0 9;oak 9 0 9;hands 0");
        x.borrow(0, 2);
        x.days(2);
        checks.due("FAILED", x.count(5), 1);
        checks.due("that one has FAILED already", x.enough(99), 0);
        x.borrow(1, 7);
        checks.due("DUE on DAY 11: not in 9 DAYS", x.enough(9), 0);
        checks.due("900 in 10 DAYS", x.enough(10), 1);
        x.borrow(1, 2);
        checks.due("1100 in 10 DAYS", x.enough(10), 2);
    }

    private static void ridByTenths() {
        checks.sentence("RID: the odds .. by p tenths (0 .. 10)");
        Run x = checks.wood("oak 9 0 9");
        x.borrow(0, 1);
        int[][] due = {{0, 1}, {1, 10}, {1, 5}, {3, 10}, {2, 5}, {1, 2}, {3, 5}, {7, 10}, {4, 5}, {9, 10}, {1, 1}};
        for (int p = 0; p <= 10; p++) {
            for (int part = 0; part < 2; part++) checks.due("rid(" + p + ", " + part + ")", x.rid(p, part), due[p][part]);
        }
        for (int p : new int[] {-1, 11}) {
            for (int part = 0; part < 2; part++) {
                int q = part;
                checks.refused(x, "rid(" + p + ", " + part + ")", () -> x.rid(p, q), OUTSIDE);
            }
        }
    }

    private static void ridOfEachPart() {
        checks.sentence("RID: the odds that there are no LOANS behind a FIRE in each PART .., by itself");
        Run x = checks.wood("oak 9 0 9;oak 9 0 9;oak 9 0 9;oak 9 0 9;oak 9 0 9;oak 9 0 9;part 0 9;part 1 1;part 2 2;part 3 3");
        checks.tell(x, "part 4 4", 1);
        for (int p : new int[] {0, 3, 10}) {
            checks.due("no LOANS: above", x.rid(p, 0), 1);
            checks.due("no LOANS: below", x.rid(p, 1), 1);
        }
        int[] above = {3, 9, 27, 81, 243, 729};
        int[] below = {10, 100, 1000, 10000, 100000, 1000000};
        for (int tree = 0; tree < 6; tree++) {
            x.borrow(tree, 1);
            x.borrow(tree, 1);
            checks.due("PARTS " + (tree + 1) + ": above", x.rid(3, 0), above[tree]);
            checks.due("PARTS " + (tree + 1) + ": below", x.rid(3, 1), below[tree]);
        }
        x.sell(5, 4);
        checks.due("one SOLD to another PART", x.rid(3, 1), 100000);
        x.fire(9);
        checks.due("one BURNT", x.rid(3, 1), 10000);
        Run same = checks.wood("oak 9 0 9;oak 9 0 9;part 0 7;part 1 7");
        same.borrow(0, 1);
        same.borrow(1, 1);
        checks.due("two in one PART: above", same.rid(3, 0), 3);
        checks.due("two in one PART: below", same.rid(3, 1), 10);
    }

    private static void grandsonOfStandingTrees() {
        checks.sentence("GRANDSON: BRANCHES that all TREES that are neither BURNT nor SOLD have together");
        checks.due("no TREES", new Run().grandson(0), 0);
        Run x = checks.wood("oak 99 0 9;oak 99 0 9;oak 99 0 9;oak 99 0 9;oak 99 0 9;oak 99 0 9;part 5 1");
        checks.due("all six", x.grandson(0), 594);
        x.fire(1);
        checks.due("one is BURNT", x.grandson(0), 495);
        x.borrow(0, 50);
        checks.due("50 are lent", x.grandson(0), 445);
        x.sell(1, 0);
        checks.due("one is SOLD: 49 and 99 are 99", x.grandson(0), 396);
        checks.due("the 50 come again to one that has 99", x.grandson(99), 396);
    }

    private static void grandsonInDays() {
        checks.sentence("GRANDSON: .. in t DAYS (0 .. 99)");
        Run x = checks.wood("oak 99 0 9;hands 1");
        x.borrow(0, 98);
        x.borrow(0, 1);
        int[][] due = {{0, 0}, {1, 0}, {97, 0}, {98, 98}, {99, 99}};
        for (int[] d : due) checks.due("grandson(" + d[0] + ")", x.grandson(d[0]), d[1]);
        for (int t : new int[] {-1, 100}) checks.refused(x, "grandson(" + t + ")", () -> x.grandson(t), OUTSIDE);
    }

    private static void toWhomOfBranchesAndDays() {
        checks.sentence("TO WHOM: .. just v is OWED for b BRANCHES (1 .. 99) that were lent t DAYS (0 .. 30) ago");
        Run x = checks.wood("hollow 0 3 9;oak 0 50 9;hands 99");
        for (int b : new int[] {1, 2, 98, 99}) {
            checks.due(b + ", 0 DAYS ago", x.toWhom(b, 0, 100 * b), 3);
            for (int t : new int[] {1, 29, 30}) {
                int v = 100 * b + 3 * b * t;
                checks.due(b + ", " + t + " DAYS ago", x.toWhom(b, t, v), 1);
                checks.due("one less", x.toWhom(b, t, v - 1), 0);
                checks.due("one more", x.toWhom(b, t, v + 1), 0);
            }
        }
        checks.due("1000000 at most", x.toWhom(99, 30, 1000000), 2);
        checks.due("just below it", x.toWhom(99, 30, 999999), 0);
        checks.due("ahead of it", x.toWhom(99, 11, 856305), 2);
        int[][] bad = {{0, 0, 0}, {100, 0, 0}, {1, -1, 100}, {1, 31, 100}, {1, 0, -1}, {1, 0, 1000001}};
        for (int[] b : bad) {
            checks.refused(x, "toWhom(" + b[0] + ", " + b[1] + ", " + b[2] + ")", () -> x.toWhom(b[0], b[1], b[2]), OUTSIDE);
        }
        checks.due("v 0", x.toWhom(1, 0, 0), 0);
        checks.due("v 1000000", x.toWhom(1, 0, 1000000), 0);
    }

    private static void toWhomOfStandingTrees() {
        checks.sentence("TO WHOM: TREES (neither BURNT nor SOLD");
        Run x = checks.wood("oak 9 0 9;oak 9 0 9;oak 9 0 9;oak 9 0 9;part 1 1;quarrel 2 3;hands 0");
        checks.due("all", x.toWhom(5, 30, 500), 15);
        x.fire(1);
        checks.due("1 is BURNT", x.toWhom(5, 30, 500), 13);
        x.sell(0, 2);
        checks.due("0 is SOLD", x.toWhom(5, 30, 500), 12);
        x.borrow(3, 9);
        checks.due("2 is CROSS, 3 has no BRANCHES", x.toWhom(5, 30, 500), 12);
    }

    private static void toWhomByBits() {
        checks.sentence("TO WHOM: TREES (.. by bits)");
        Run x = checks.wood("hollow 0 1 9;hollow 0 2 9;hollow 0 3 9;hollow 0 4 9;hollow 0 5 9;hollow 0 6 9");
        checks.due("none", x.toWhom(1, 1, 100), 0);
        for (int tree = 0; tree < 6; tree++) checks.due("TREE " + tree, x.toWhom(1, 1, 101 + tree), 1 << tree);
        checks.due("none behind them", x.toWhom(1, 1, 107), 0);
        checks.due("all", x.toWhom(1, 0, 100), 63);
    }

    private static void lowestTerms() {
        checks.sentence("Parts are told in lowest terms: above (part 0), below (1)");
        Run x = checks.wood("oak 9 0 9;oak 9 0 9;part 1 1");
        x.borrow(0, 1);
        x.borrow(1, 1);
        int[][] due = {{0, 1}, {1, 100}, {1, 25}, {9, 100}, {4, 25}, {1, 4}, {9, 25}, {49, 100}, {16, 25}, {81, 100}, {1, 1}};
        for (int p = 0; p <= 10; p++) {
            checks.due("above, " + p, x.rid(p, 0), due[p][0]);
            checks.due("below, " + p, x.rid(p, 1), due[p][1]);
        }
        for (int part : new int[] {-1, 2}) checks.refused(x, "rid(5, " + part + ")", () -> x.rid(5, part), OUTSIDE);
    }
}
