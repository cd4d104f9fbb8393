/** Promises 15 to 23: what is foretold. */
public final class ForetoldTest {
    private static final int NONE = -1, UNKNOWN = -2, OUTSIDE = -3;
    private static final int MIN = Integer.MIN_VALUE, MAX = Integer.MAX_VALUE;
    private static final Checks checks = new Checks();

    public static void main(String[] args) {
        promise15Later();
        promise16All();
        promise17Clear();
        promise18Hut();
        promise18WhoLends();
        promise18LikeRows();
        promise19Enough();
        promise20Rid();
        promise21Grandson();
        promise22ToWhom();
        promise23Count();
        checks.end();
    }

    private static Run threeLoans() {
        Run x = checks.wood("oak 9 10 2;birch 9 0 9;hollow 9 5 9;hands 1");
        x.borrow(0, 2);
        x.borrow(1, 1);
        x.borrow(2, 3);
        return x;
    }

    private static void promise15Later() {
        Run x = threeLoans();
        String before = x.now();
        int[][] due = {{200, 100, 300}, {220, 0, 315}, {142, 0, 330}, {56, 0, 345}, {0, 0, 321}};
        for (int t = 0; t < 5; t++) {
            for (int tree = 0; tree < 3; tree++) {
                checks.due("later(" + tree + ", " + t + ")", x.later(tree, t), due[t][tree]);
            }
        }
        checks.due("later(2, 99)", x.later(2, 99), 0);
        checks.holds("nothing changes", x.now().equals(before));
        checks.refused(x, "later(3, 0)", () -> x.later(3, 0), UNKNOWN);
        checks.refused(x, "later(-1, 100)", () -> x.later(-1, 100), UNKNOWN);
        checks.refused(x, "later(0, 100)", () -> x.later(0, 100), OUTSIDE);
        checks.refused(x, "later(0, -1)", () -> x.later(0, -1), OUTSIDE);
    }

    private static void promise16All() {
        Run x = threeLoans();
        String before = x.now();
        int[] owed = {600, 535, 472, 401, 321, 236, 151, 66, 0, 0};
        for (int t = 0; t < 10; t++) checks.due("all(" + t + ", 0)", x.all(t, 0), owed[t]);
        checks.due("all(2, 1)", x.all(2, 1), 0);
        checks.due("all(3, 1): the OAK's", x.all(3, 1), 1);
        checks.due("all(99, 1)", x.all(99, 1), 1);
        checks.due("all(99, 0)", x.all(99, 0), 0);
        checks.holds("nothing changes", x.now().equals(before));
        x.days(5);
        checks.due("all(0, 1): since the last text", x.all(0, 1), 1);
        for (int[] bad : new int[][] {{100, 0}, {-1, 0}, {0, 2}, {0, -1}, {MIN, 0}, {0, MAX}}) {
            checks.refused(x, "all(" + bad[0] + ", " + bad[1] + ")", () -> x.all(bad[0], bad[1]), OUTSIDE);
        }
        Run y = checks.wood("oak 9 0 1;hands 0");
        y.borrow(0, 1);
        y.days(2);
        y.borrow(0, 1);
        checks.due("those that have FAILED and one more", y.all(2, 1), 2);
    }

    private static void promise17Clear() {
        Run x = threeLoans();
        checks.due("clear()", x.clear(), 8);
        checks.due("nothing changes", x.count(3), 3);
        x.days(8);
        checks.due("clear() then", x.clear(), 0);
        Run y = checks.wood("oak 99 1 9;hands 0");
        checks.due("no LOANS", y.clear(), 0);
        y.borrow(0, 1);
        checks.due("HANDS 0", y.clear(), NONE);
        // A DAY takes 100 and brings one for each BRANCH of the HOLLOW.
        Run z = checks.wood("hollow 99 1 9;hands 1");
        z.borrow(0, 90);
        checks.due("9000 at 10 a DAY: 900", z.clear(), 900);
        Run w = checks.wood("hollow 99 1 9;hands 1");
        w.borrow(0, 91);
        checks.due("9100 at 9 a DAY: above 999", w.clear(), NONE);
        w.days(12);
        checks.due("1000 of its 1012 DAYS", w.clear(), NONE);
        w.days(1);
        checks.due("999 of its 1012 DAYS", w.clear(), 999);
    }

    private static void promise18Hut() {
        Run x = checks.wood("oak 10 10 9;hollow 10 12 9;twin 10 30 9");
        String before = x.now();
        checks.due("one BRANCH", x.hut(1, 1, NONE), 110);
        checks.due("of RATE 10 alone", x.hut(10, 1, NONE), 1100);
        checks.due("then 12", x.hut(12, 1, NONE), 1324);
        checks.due("from the OAK", x.hut(12, 1, 0), 10);
        checks.due("from the HOLLOW", x.hut(12, 1, 1), 2);
        checks.due("from the TWIN", x.hut(12, 1, 2), 0);
        checks.due("in 30 DAYS the HOLLOW first", x.hut(12, 30, 1), 10);
        checks.due("then the OAK", x.hut(12, 30, 0), 2);
        checks.due("4600 and 3430", x.hut(12, 30, NONE), 8030);
        checks.due("all of them", x.hut(30, 0, NONE), 3000);
        checks.due("more than there are", x.hut(31, 0, NONE), NONE);
        checks.due("more than there are, from one", x.hut(31, 0, 2), NONE);
        checks.holds("nothing changes", x.now().equals(before));
        for (int[] bad : new int[][] {{0, 0}, {100, 0}, {1, -1}, {1, 31}, {MIN, 0}, {1, MAX}}) {
            checks.refused(x, "hut(" + bad[0] + ", " + bad[1] + ", NONE)", () -> x.hut(bad[0], bad[1], NONE), OUTSIDE);
            checks.refused(x, "hut(" + bad[0] + ", " + bad[1] + ", 0)", () -> x.hut(bad[0], bad[1], 0), OUTSIDE);
            checks.refused(x, "hut(.., 3)", () -> x.hut(bad[0], bad[1], 3), UNKNOWN);
        }
        checks.refused(x, "hut(1, 0, 3)", () -> x.hut(1, 0, 3), UNKNOWN);
        checks.refused(x, "hut(1, 0, -2)", () -> x.hut(1, 0, -2), UNKNOWN);
        checks.refused(x, "hut(31, 0, 3)", () -> x.hut(31, 0, 3), UNKNOWN);
        Run z = checks.wood("oak 20 6 9;oak 20 5 9;oak 20 4 9;oak 20 3 9;oak 20 2 9;oak 20 1 9");
        int[] six = {0, 19, 20, 20, 20, 20};
        checks.due("99 from six TREES", z.hut(99, 1, NONE), 1995 + 2080 + 2060 + 2040 + 2020);
        for (int tree = 0; tree < 6; tree++) checks.due("of them from " + tree, z.hut(99, 1, tree), six[tree]);
        checks.due("all 120 of them", z.grandson(0), 120);
        Run y = checks.wood("oak 99 50 9;twin 99 50 9");
        checks.due("OWED is 1000000 at most in a HUT", y.hut(99, 30, NONE), 1000000);
        checks.due("so that all from one is least", y.hut(99, 30, 1), 99);
    }

    private static void promise18WhoLends() {
        Run x = checks.wood("oak 9 1 9;oak 9 2 9;oak 9 3 9;oak 9 4 9;oak 9 5 9;quarrel 0 4;part 1 1");
        x.borrow(4, 1);
        x.fire(1);
        x.sell(2, 3);
        int[] due = {0, 0, 0, 18, 2};
        checks.due("none of CROSS, BURNT, SOLD ones", x.hut(20, 1, NONE), 1872 + 210);
        for (int tree = 0; tree < 5; tree++) checks.due("from " + tree, x.hut(20, 1, tree), due[tree]);
        checks.due("so many at most", x.hut(26, 1, 4), 8);
        checks.due("and no more", x.hut(27, 1, NONE), NONE);
        Run y = checks.wood("oak 20 0 9;hands 0");
        for (int i = 0; i < 12; i++) y.borrow(0, 1);
        checks.due("LENDING does not look at how many LOANS there are", y.hut(8, 0, NONE), 800);
    }

    private static void promise18LikeRows() {
        Run x = checks.wood("oak 5 0 9;oak 5 0 9;oak 5 0 9");
        checks.due("less of the first", x.hut(7, 30, 0), 0);
        checks.due("less of the second", x.hut(7, 30, 1), 2);
        checks.due("the rest", x.hut(7, 30, 2), 5);
        // One BRANCH of RATE 3 loses more by the cut: 136 in 12 DAYS, but 2 together 279.
        Run y = checks.wood("oak 9 3 9;oak 9 3 9");
        checks.due("2 together: 200, 206, 212, 218, 224", y.hut(2, 4, NONE), 224);
        checks.due("from the second", y.hut(2, 4, 1), 2);
        checks.due("split where the cut is worth it", y.hut(2, 12, NONE), 272);
        checks.due("one of each", y.hut(2, 12, 0), 1);
    }

    private static void promise19Enough() {
        Run x = checks.wood("oak 99 0 4;birch 9 0 9;hands 0");
        x.borrow(0, 9);
        x.borrow(1, 5);
        checks.due("ahead of the first DUE", x.enough(1), 0);
        checks.due("the BIRCH's: 500 in 2 DAYS", x.enough(2), 3);
        checks.due("1400 in 5 DAYS", x.enough(5), 3);
        checks.due("HANDS stay", x.count(2), 0);
        checks.due("LOANS stay", x.count(3), 2);
        x.days(2);
        checks.due("one FAILED already: it stands first, 1400 in 3 DAYS", x.enough(3), 5);
        checks.due("till the next is DUE", x.enough(2), 0);
        Run y = checks.wood("birch 99 0 9;birch 99 0 9;birch 1 0 9;hands 5");
        y.borrow(0, 99);
        y.borrow(1, 99);
        checks.due("all 99", y.enough(2), 99);
        y.borrow(2, 1);
        checks.due("not enough", y.enough(2), NONE);
        checks.due("one DAY less", y.enough(1), 0);
        checks.refused(y, "enough(0)", () -> y.enough(0), OUTSIDE);
        checks.refused(y, "enough(100)", () -> y.enough(100), OUTSIDE);
        checks.refused(y, "enough(-1)", () -> y.enough(-1), OUTSIDE);
        Run v = checks.wood("birch 99 0 9;hands 5");
        for (int hands = 1; hands <= 12; hands++) {
            v.keep(0);
            v.borrow(0, 2 * hands);
            checks.due("just " + hands, v.enough(2), hands);
            v.back(0);
        }
        Run z = checks.wood("oak 9 0 99;hands 5");
        z.borrow(0, 9);
        checks.due("99 DAYS: not DUE in them", z.enough(99), 0);
        z.days(1);
        checks.due("99 DAYS: 900 in 99", z.enough(99), 1);
    }

    private static void promise20Rid() {
        Run x = checks.wood("oak 9 0 9;oak 9 0 9;oak 9 0 9;oak 9 0 9;part 0 1;part 1 1;part 2 5;part 3 9");
        checks.due("no LOANS: 1 of", x.rid(0, 0), 1);
        checks.due("no LOANS: 1", x.rid(0, 1), 1);
        x.borrow(0, 1);
        x.borrow(1, 1);
        int[][] once = {{0, 1}, {1, 10}, {1, 5}, {3, 10}, {2, 5}, {1, 2}, {3, 5}, {7, 10}, {4, 5}, {9, 10}, {1, 1}};
        for (int p = 0; p <= 10; p++) {
            checks.due("one PART: rid(" + p + ", 0)", x.rid(p, 0), once[p][0]);
            checks.due("one PART: rid(" + p + ", 1)", x.rid(p, 1), once[p][1]);
        }
        x.borrow(2, 1);
        x.borrow(3, 1);
        checks.due("three PARTS: 343 of", x.rid(7, 0), 343);
        checks.due("three PARTS: 1000", x.rid(7, 1), 1000);
        checks.due("in lowest terms: 64 of", x.rid(8, 0), 64);
        checks.due("in lowest terms: 125", x.rid(8, 1), 125);
        checks.due("none: 0 of", x.rid(0, 0), 0);
        checks.due("none: 1", x.rid(0, 1), 1);
        x.fire(9);
        checks.due("a BURNT one's are gone", x.rid(1, 1), 100);
        x.sell(2, 0);
        checks.due("a SOLD one's are elsewhere", x.rid(1, 1), 10);
        for (int[] bad : new int[][] {{11, 0}, {-1, 0}, {0, 2}, {0, -1}, {MIN, 0}, {0, MAX}}) {
            checks.refused(x, "rid(" + bad[0] + ", " + bad[1] + ")", () -> x.rid(bad[0], bad[1]), OUTSIDE);
        }
        Run y = checks.wood("oak 1 0 9;oak 1 0 9;oak 1 0 9;oak 1 0 9;oak 1 0 9;oak 1 0 9;part 1 1;part 2 2;part 3 3");
        checks.tell(y, "part 4 4;part 5 5", 2);
        for (int tree = 0; tree < 6; tree++) y.borrow(tree, 1);
        checks.due("six PARTS: 531441 of", y.rid(9, 0), 531441);
        checks.due("six PARTS: 1000000", y.rid(9, 1), 1000000);
    }

    private static void promise21Grandson() {
        Run x = checks.wood("oak 9 0 2;birch 8 0 9;hollow 7 0 9;oak 6 0 9;part 3 1;hands 1");
        x.borrow(0, 2);
        x.borrow(1, 1);
        x.borrow(3, 2);
        checks.due("now", x.grandson(0), 25);
        checks.due("in 1 DAY", x.grandson(1), 26);
        checks.due("in 2 DAYS", x.grandson(2), 26);
        checks.due("in 3 DAYS", x.grandson(3), 28);
        checks.due("in 99 DAYS", x.grandson(99), 30);
        checks.due("nothing changes", x.count(3), 3);
        x.fire(1);
        checks.due("without BURNT ones", x.grandson(99), 24);
        x.sell(0, 2);
        checks.due("without SOLD ones, with what they had", x.grandson(0), 21);
        checks.due("and with what comes back", x.grandson(99), 24);
        for (int t : new int[] {-1, 100, MIN, MAX}) {
            checks.refused(x, "grandson(" + t + ")", () -> x.grandson(t), OUTSIDE);
        }
    }

    private static void promise22ToWhom() {
        Run x = checks.wood("oak 1 10 9;birch 1 10 9;twin 1 20 9;hollow 1 10 9;oak 0 50 9;oak 0 11 9;part 1 3");
        checks.due("0 DAYS ago: all", x.toWhom(99, 0, 9900), 63);
        checks.due("1 DAY ago", x.toWhom(5, 1, 550), 15);
        checks.due("2 DAYS ago", x.toWhom(5, 2, 605), 7);
        checks.due("2 DAYS ago, the HOLLOW", x.toWhom(5, 2, 600), 8);
        checks.due("none", x.toWhom(5, 2, 601), 0);
        checks.due("1000000 at most", x.toWhom(99, 30, 1000000), 16);
        checks.due("cut: 111, 123", x.toWhom(1, 2, 123), 32);
        checks.due("v 0", x.toWhom(1, 0, 0), 0);
        x.fire(3);
        x.sell(2, 0);
        checks.due("neither BURNT nor SOLD", x.toWhom(5, 1, 550), 9);
        x.borrow(0, 1);
        checks.due("LOANS that there are do not count", x.toWhom(5, 1, 550), 9);
        for (int[] bad : new int[][] {{0, 0, 0}, {100, 0, 0}, {1, -1, 0}, {1, 31, 0}, {1, 0, -1}, {1, 0, 1000001},
            {MIN, 0, 0}, {1, MAX, 0}, {1, 0, MIN}}) {
            checks.refused(x, "toWhom(" + bad[0] + ", " + bad[1] + ", " + bad[2] + ")",
                () -> x.toWhom(bad[0], bad[1], bad[2]), OUTSIDE);
        }
    }

    private static void promise23Count() {
        Run x = checks.wood("oak 9 10 1;birch 9 10 9;twin 9 9 9;quarrel 0 1;quarrel 0 2;hands 2");
        x.borrow(0, 7);
        x.days(3);
        x.writeText("wood;oak 1");
        int[] due = {3, 2, 2, 1, 3, 1, 269, 10};
        x.count(6);
        for (int what = 0; what < 8; what++) checks.due("count(" + what + ")", x.count(what), due[what]);
        for (int what : new int[] {-1, 8, MIN, MAX}) {
            checks.refused(x, "count(" + what + ")", () -> x.count(what), OUTSIDE);
        }
    }
}
