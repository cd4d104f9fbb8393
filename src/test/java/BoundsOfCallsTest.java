import java.util.function.IntUnaryOperator;

/** Promises 1 to 23: what each call answers at its bounds, and each of its refusals, by which nothing changes. */
public final class BoundsOfCallsTest {
    private static final int NONE = -1, UNKNOWN = -2, OUTSIDE = -3, NOT = -4, FULL = -5;
    private static final int MIN = Integer.MIN_VALUE, MAX = Integer.MAX_VALUE;
    /** Numbers that no call takes for anything: some are small ones once an int wraps round or is cut. */
    private static final int[] WILD = {MIN, MIN + 1, -256, -100, 256, 65536, 1 << 30, MAX - 9999, MAX - 99, MAX};
    private static final Checks checks = new Checks();

    public static void main(String[] args) {
        promise1NewObject();
        promise2Write();
        promise2WriteFull();
        promise3Erase();
        promise4Fault();
        promise5Wood();
        promise6Tree();
        promise7Loan();
        promise8As();
        promise9Borrow();
        promise9FirstThatFits();
        promise10Days();
        promise10Full();
        promise11Fire();
        promise12Sell();
        promise12FirstThatFits();
        promise13Keep();
        promise13AllAsItIs();
        promise14Back();
        promise14NothingKept();
        promise15Later();
        promise16All();
        promise17Clear();
        promise18Hut();
        promise18None();
        promise19Enough();
        promise20Rid();
        promise21Grandson();
        promise22ToWhom();
        promise23Count();
        foretoldBehindTheLastDay();
        checks.end();
    }

    /** Two TREES that LEND, one BURNT, one SOLD, LOANS of both, two woods kept, a TEXT begun. */
    private static Run busyWood() {
        Run x = checks.wood("oak 20 10 2;hollow 20 7 9;oak 5 1 9;oak 5 1 9;part 2 3;quarrel 0 2;hands 1");
        x.borrow(0, 4);
        x.keep(0);
        x.days(3);
        x.borrow(1, 6);
        x.sell(3, 1);
        x.fire(3);
        x.keep(1);
        x.writeText("hands 7;oak");
        return x;
    }

    /** One call with each of many numbers in one place: all are refused alike. */
    private static void refusedEach(Run x, String call, int[] numbers, IntUnaryOperator made, int want) {
        for (int n : numbers) checks.refused(x, call + " with " + n, () -> made.applyAsInt(n), want);
    }

    private static void promise1NewObject() {
        checks.sentence("1: No TREES");
        Run x = new Run();
        int[] due = {0, 0, 5, 0, 0, 0, 0, 0};
        for (int what = 0; what < 8; what++) checks.due("count(" + what + ")", x.count(what), due[what]);
        for (int tree = 0; tree < 7; tree++) {
            int i = tree;
            checks.refused(x, "tree(" + i + ", 0)", () -> x.tree(i, 0), UNKNOWN);
            checks.refused(x, "as(" + i + ", 0)", () -> x.as(i, 0), UNKNOWN);
            checks.refused(x, "borrow(" + i + ", 1)", () -> x.borrow(i, 1), UNKNOWN);
            checks.refused(x, "later(" + i + ", 0)", () -> x.later(i, 0), UNKNOWN);
            checks.refused(x, "hut(1, 0, " + i + ")", () -> x.hut(1, 0, i), UNKNOWN);
            checks.refused(x, "sell(" + i + ", 0)", () -> x.sell(i, 0), UNKNOWN);
            checks.refused(x, "loan(" + i + ", 0)", () -> x.loan(i, 0), UNKNOWN);
        }
        for (int part = 0; part < 10; part++) checks.due("fire(" + part + ")", x.fire(part), 0);
        checks.due("clear()", x.clear(), 0);
        checks.due("enough(99)", x.enough(99), 0);
        checks.due("grandson(99)", x.grandson(99), 0);
        checks.due("toWhom(1, 0, 100)", x.toWhom(1, 0, 100), 0);
        checks.due("days(99)", x.days(99), 99);
    }

    private static void promise2Write() {
        checks.sentence("2: n (1 .. 8) bytes more of THE TEXT, byte i being bytes >> 8 i & 255: how many it has");
        Run x = new Run();
        int length = 0;
        for (int n = 1; n <= 8; n++) {
            length += n;
            checks.due("write of " + n, x.write(-1L, n), length);
            checks.due("count(7)", x.count(7), length);
        }
        refusedEach(x, "write(0, n)", new int[] {0, 9, -1, -8, 10}, n -> x.write(0, n), OUTSIDE);
        refusedEach(x, "write(0, n)", WILD, n -> x.write(0, n), OUTSIDE);
        String text = "hands 77";
        for (int n = 1; n <= 8; n++) {
            Run y = new Run();
            long row = 0;
            for (int i = 7; i >= 0; i--) row = row << 8 | (i < n ? text.charAt(i) : 255);
            y.write(row, n);
            checks.due("the first " + n + " of '" + text + "'", y.fault(), n < 5 ? 0 : n < 7 ? n : NONE);
        }
        Run high = new Run();
        high.write(0x3b646f6f77L | 0x80L << 40, 6);
        checks.due("a byte of 128", high.fault(), 5);
        Run last = new Run();
        last.writeText("wood");
        last.write(0xff20202020202020L, 8);
        checks.due("byte 7 is 255, not -1", last.fault(), 11);
    }

    private static void promise2WriteFull() {
        checks.sentence("2: OUTSIDE; FULL");
        for (int room = 0; room <= 8; room++) {
            int left = room;
            Run x = new Run();
            for (int i = 0; i < 24; i++) x.write(0x2020202020202020L, 8);
            if (room < 8) x.write(0x2020202020202020L, 8 - room);
            checks.due("bytes", x.count(7), 200 - room);
            for (int n = room + 1; n <= 8; n++) {
                int more = n;
                checks.refused(x, n + " bytes in room for " + room, () -> x.write(0, more), FULL);
            }
            checks.refused(x, "9 bytes in room for " + room, () -> x.write(0, 9), OUTSIDE);
            checks.refused(x, "0 bytes in room for " + room, () -> x.write(0, 0), OUTSIDE);
            if (room > 0) checks.due(room + " bytes in room for as many", x.write(0x2020202020202020L, left), 200);
        }
    }

    private static void promise3Erase() {
        checks.sentence("3: THE TEXT is empty: how many bytes it had");
        for (int length : new int[] {0, 1, 8, 199, 200}) {
            Run x = busyWood();
            x.erase();
            String before = x.everything();
            x.writeText("w".repeat(length));
            checks.due("erase() of " + length, x.erase(), length);
            checks.due("count(7)", x.count(7), 0);
            checks.holds("all else is as it was", x.everything().equals(before));
            checks.due("erase() again", x.erase(), 0);
            x.writeText("hands 1");
            checks.due("what is written then stands by itself", x.wood(), 1);
        }
    }

    private static void promise4Fault() {
        checks.sentence("4: The place of the FAULT (the byte with which the TOKEN begins, or the length); NONE");
        Run x = new Run();
        checks.fault(x, "", 0);
        checks.fault(x, "wood", NONE);
        checks.fault(x, "#", 0);
        checks.fault(x, "   hands   1000  ", 11);
        checks.fault(x, "   hands   ", 11);
        checks.fault(x, " ".repeat(199) + "w", 199);
        checks.fault(x, " ".repeat(200), 200);
        checks.fault(x, " ".repeat(195) + "wood;", 200);
        checks.fault(x, " ".repeat(196) + "wood", NONE);
        Run y = busyWood();
        checks.unchanged(y, "fault()", y::fault, 11);
    }

    private static void promise5Wood() {
        checks.sentence("5: THE TEXT's LINES are done, and it is empty then: how many there were. NOT: it has a FAULT");
        for (int lines : new int[] {1, 2, 11, 12}) {
            Run x = new Run();
            x.writeText("oak 9 9 9" + ";hands 3".repeat(lines - 1));
            checks.due("wood() of " + lines, x.wood(), lines);
            checks.due("THE TEXT is empty", x.count(7), 0);
            checks.due("TREES", x.count(0), 1);
            checks.due("HANDS", x.count(2), lines == 1 ? 5 : 3);
            checks.refused(x, "wood() again", x::wood, NOT);
        }
        Run y = busyWood();
        checks.refused(y, "wood() with a FAULT in the last LINE", y::wood, NOT);
        y.writeText(" 1 1 1");
        checks.due("wood() when it is mended", y.wood(), 2);
        checks.due("TREES", y.count(0), 5);
        Run z = checks.wood("oak 1 1 1");
        z.writeText("wood;oak 2 2 2;twin 3 3 3;hands 100");
        checks.refused(z, "wood() that would forget", z::wood, NOT);
        checks.due("the TREE is as it was", z.tree(0, 1), 1);
    }

    private static void promise6Tree() {
        checks.sentence("6: Of a TREE: KIND .. 1 it is CROSS, 0 (7). UNKNOWN; OUTSIDE");
        Run x = busyWood();
        int[][] due = {{0, 16, 10, 2, 0, 201, 0, 0}, {3, 19, 7, 9, 0, 600, 0, 0}, {0, 5, 1, 9, 3, 0, 1, 1},
            {0, 0, 1, 9, 0, 0, 2, 0}};
        for (int tree = 0; tree < 4; tree++) {
            for (int what = 0; what < 8; what++) {
                checks.due("tree(" + tree + ", " + what + ")", x.tree(tree, what), due[tree][what]);
            }
            int known = tree;
            refusedEach(x, "tree(" + tree + ", n)", new int[] {-1, 8, MIN, MAX}, n -> x.tree(known, n), OUTSIDE);
        }
        refusedEach(x, "tree(n, 0)", new int[] {-1, 4, 5, 6}, n -> x.tree(n, 0), UNKNOWN);
        refusedEach(x, "tree(n, 0)", WILD, n -> x.tree(n, 0), UNKNOWN);
        refusedEach(x, "tree(n, 8): the first that fits", new int[] {-1, 4}, n -> x.tree(n, 8), UNKNOWN);
    }

    private static void promise7Loan() {
        checks.sentence("7: Of a LOAN: the TREE .. 1 it FAILED, 0 (4). UNKNOWN; OUTSIDE");
        Run x = busyWood();
        int[][] due = {{0, 4, 201, 2, 1}, {1, 6, 600, 12, 0}};
        for (int loan = 0; loan < 2; loan++) {
            for (int what = 0; what < 5; what++) {
                checks.due("loan(" + loan + ", " + what + ")", x.loan(loan, what), due[loan][what]);
            }
            int known = loan;
            refusedEach(x, "loan(" + loan + ", n)", new int[] {-1, 5, MIN, MAX}, n -> x.loan(known, n), OUTSIDE);
        }
        refusedEach(x, "loan(n, 0)", new int[] {-1, 2, 3, 11, 12}, n -> x.loan(n, 0), UNKNOWN);
        refusedEach(x, "loan(n, 0)", WILD, n -> x.loan(n, 0), UNKNOWN);
        refusedEach(x, "loan(n, 5): the first that fits", new int[] {-1, 2}, n -> x.loan(n, 5), UNKNOWN);
        Run twelve = checks.wood("oak 99 0 9;hands 0");
        for (int i = 0; i < 12; i++) twelve.borrow(0, 1);
        checks.due("loan(11, 1)", twelve.loan(11, 1), 1);
        checks.refused(twelve, "loan(12, 1)", () -> twelve.loan(12, 1), UNKNOWN);
    }

    private static void promise8As() {
        checks.sentence("8: A TREE taken as a KIND (0 .. 4 ..; it answers as what it is, whatever it is taken as): what is OWED"
            + " for one BRANCH lent now, when it has GROWN once. UNKNOWN; OUTSIDE; NOT: it is none such");
        for (int rate : new int[] {0, 1, 49, 50}) {
            Run x = checks.wood("oak 0 R 1;birch 0 R 1;twin 0 R 1;hollow 0 R 1".replace("R", "" + rate));
            int[] due = {100 + rate, 100 + rate, 100 + rate / 2, 100 + rate};
            for (int tree = 0; tree < 4; tree++) {
                checks.due("as a TREE", x.as(tree, 0), due[tree]);
                checks.due("as its own KIND", x.as(tree, tree + 1), due[tree]);
                if (tree < 3) checks.due("as an OAK", x.as(tree, 1), due[tree]);
            }
        }
        Run x = busyWood();
        refusedEach(x, "as(0, n)", new int[] {2, 3, 4}, n -> x.as(0, n), NOT);
        refusedEach(x, "as(1, n)", new int[] {1, 2, 3}, n -> x.as(1, n), NOT);
        refusedEach(x, "as(0, n)", new int[] {-1, 5, MIN, MAX}, n -> x.as(0, n), OUTSIDE);
        refusedEach(x, "as(n, 0)", new int[] {-1, 4, MIN, MAX}, n -> x.as(n, 0), UNKNOWN);
        refusedEach(x, "as(n, 5): the first that fits", new int[] {-1, 4}, n -> x.as(n, 5), UNKNOWN);
        checks.due("a BURNT one", x.as(2, 1), 101);
        checks.due("a SOLD one", x.as(3, 1), 101);
    }

    private static void promise9Borrow() {
        checks.sentence("9: A LOAN of n BRANCHES (1 .. 99): which it is. UNKNOWN; OUTSIDE; NOT: .. or not so many; FULL");
        for (int n : new int[] {1, 2, 98, 99}) checks.due("borrow(0, " + n + ")", checks.wood("oak 99 0 9").borrow(0, n), 0);
        Run x = checks.wood("oak 99 0 9;oak 7 0 9;hands 0");
        refusedEach(x, "borrow(0, n)", new int[] {0, -1, 100, 101}, n -> x.borrow(0, n), OUTSIDE);
        refusedEach(x, "borrow(0, n)", WILD, n -> x.borrow(0, n), OUTSIDE);
        refusedEach(x, "borrow(n, 1)", new int[] {-1, 2, 6}, n -> x.borrow(n, 1), UNKNOWN);
        refusedEach(x, "borrow(n, 1)", WILD, n -> x.borrow(n, 1), UNKNOWN);
        refusedEach(x, "borrow(1, n)", new int[] {8, 9, 99}, n -> x.borrow(1, n), NOT);
        for (int i = 0; i < 12; i++) checks.due("which it is", x.borrow(i % 2, 1), i);
        checks.refused(x, "a 13th", () -> x.borrow(0, 1), FULL);
        checks.due("the 12th", x.loan(11, 0), 1);
    }

    private static void promise9FirstThatFits() {
        checks.sentence("9: UNKNOWN; OUTSIDE; NOT; FULL: the first of these that fits");
        Run x = checks.wood("oak 20 0 9;oak 20 0 9;oak 20 0 9;part 1 1;quarrel 0 2;hands 0");
        x.fire(1);
        for (int i = 0; i < 12; i++) x.borrow(0, 1);
        checks.refused(x, "UNKNOWN ahead of OUTSIDE", () -> x.borrow(3, 0), UNKNOWN);
        checks.refused(x, "UNKNOWN ahead of OUTSIDE, below", () -> x.borrow(-1, 100), UNKNOWN);
        checks.refused(x, "UNKNOWN ahead of FULL", () -> x.borrow(3, 1), UNKNOWN);
        checks.refused(x, "OUTSIDE ahead of NOT (BURNT)", () -> x.borrow(1, 0), OUTSIDE);
        checks.refused(x, "OUTSIDE ahead of NOT (CROSS)", () -> x.borrow(2, 100), OUTSIDE);
        checks.refused(x, "OUTSIDE ahead of FULL", () -> x.borrow(0, 0), OUTSIDE);
        checks.refused(x, "NOT (BURNT) ahead of FULL", () -> x.borrow(1, 1), NOT);
        checks.refused(x, "NOT (CROSS) ahead of FULL", () -> x.borrow(2, 1), NOT);
        checks.refused(x, "NOT (not so many) ahead of FULL", () -> x.borrow(0, 9), NOT);
        checks.refused(x, "FULL", () -> x.borrow(0, 8), FULL);
    }

    private static void promise10Days() {
        checks.sentence("10: n DAYS (1 .. 99) go: the DAY then. OUTSIDE");
        for (int n : new int[] {1, 2, 98, 99}) {
            Run x = checks.wood("hollow 9 1 9;hands 0");
            x.borrow(0, 1);
            checks.due("days(" + n + ")", x.days(n), n);
            checks.due("it has GROWN as often", x.loan(0, 2), 100 + n);
        }
        Run x = busyWood();
        refusedEach(x, "days(n)", new int[] {0, -1, 100, 101}, x::days, OUTSIDE);
        refusedEach(x, "days(n)", WILD, x::days, OUTSIDE);
    }

    private static Run onDay(int day) {
        Run x = checks.wood("hollow 9 1 99;hands 0");
        for (int left = day; left > 0; left -= 99) x.days(Math.min(left, 99));
        checks.due("DAY", x.count(4), day);
        return x;
    }

    private static void promise10Full() {
        checks.sentence("10: OUTSIDE; FULL: above DAY 9999");
        Run x = onDay(9900);
        x.borrow(0, 1);
        checks.refused(x, "9900 and 100", () -> x.days(100), OUTSIDE);
        checks.due("9900 and 99", x.days(99), 9999);
        checks.due("DAY", x.count(4), 9999);
        refusedEach(x, "9999 and n", new int[] {1, 2, 98, 99}, x::days, FULL);
        refusedEach(x, "9999 and n", new int[] {0, -1, 100, MIN, MAX}, x::days, OUTSIDE);
        Run y = onDay(9901);
        y.borrow(0, 1);
        checks.refused(y, "9901 and 99", () -> y.days(99), FULL);
        checks.due("9901 and 98", y.days(98), 9999);
        Run z = onDay(9998);
        z.keep(0);
        checks.refused(z, "9998 and 2", () -> z.days(2), FULL);
        checks.due("9998 and 1", z.days(1), 9999);
        checks.due("back to 9998", z.back(0), 9998);
        checks.due("9998 and 1 again", z.days(1), 9999);
        z.borrow(0, 1);
        checks.due("DUE behind the last DAY", z.loan(0, 3), 10098);
    }

    private static void promise11Fire() {
        checks.sentence("11: A FIRE in a PART (0 .. 9): how many TREES are BURNT by it. OUTSIDE");
        for (int part : new int[] {0, 1, 8, 9}) {
            Run x = checks.wood("oak 9 0 9;oak 9 0 9;oak 9 0 9;part 0 P;part 1 P;part 2 5".replace("P", "" + part));
            checks.due("fire(" + part + ")", x.fire(part), 2);
            checks.due("BURNT", x.tree(0, 6) + x.tree(1, 6), 2);
            checks.due("not BURNT", x.tree(2, 6), 0);
            checks.due("fire(" + part + ") again", x.fire(part), 0);
        }
        Run x = busyWood();
        refusedEach(x, "fire(n)", new int[] {-1, 10, 11}, x::fire, OUTSIDE);
        refusedEach(x, "fire(n)", WILD, x::fire, OUTSIDE);
        checks.unchanged(x, "where none stand", () -> x.fire(9), 0);
    }

    private static void promise12Sell() {
        checks.sentence("12: A TREE is SOLD to another one: how many LOANS are that one's by it. UNKNOWN; OUTSIDE: itself;"
            + " NOT: one of both is BURNT or SOLD");
        Run x = checks.wood("oak 9 0 9;oak 9 0 9;oak 9 0 9;oak 9 0 9;oak 9 0 9;part 3 1;hands 0");
        x.borrow(1, 1);
        x.borrow(0, 1);
        x.borrow(0, 1);
        refusedEach(x, "sell(n, 0)", new int[] {-1, 5, 6, MIN, MAX}, n -> x.sell(n, 0), UNKNOWN);
        refusedEach(x, "sell(0, n)", new int[] {-1, 5, 6, MIN, MAX}, n -> x.sell(0, n), UNKNOWN);
        refusedEach(x, "sell(n, n)", new int[] {0, 1, 2, 3, 4}, n -> x.sell(n, n), OUTSIDE);
        checks.due("two LOANS", x.sell(0, 1), 2);
        checks.due("its own are not counted", x.tree(1, 5), 300);
        x.fire(1);
        checks.refused(x, "a SOLD one", () -> x.sell(0, 2), NOT);
        checks.refused(x, "to a SOLD one", () -> x.sell(2, 0), NOT);
        checks.refused(x, "a BURNT one", () -> x.sell(3, 2), NOT);
        checks.refused(x, "to a BURNT one", () -> x.sell(2, 3), NOT);
        checks.refused(x, "a SOLD one to a BURNT one", () -> x.sell(0, 3), NOT);
        checks.due("none", x.sell(2, 4), 0);
        checks.due("three", x.sell(1, 4), 3);
    }

    private static void promise12FirstThatFits() {
        checks.sentence("12: UNKNOWN; OUTSIDE; NOT: the first of these that fits");
        Run x = checks.wood("oak 9 0 9;oak 9 0 9;oak 9 0 9;part 0 1");
        x.fire(1);
        x.sell(1, 2);
        refusedEach(x, "UNKNOWN ahead of OUTSIDE: sell(n, n)", new int[] {-1, 3, MIN, MAX}, n -> x.sell(n, n), UNKNOWN);
        refusedEach(x, "UNKNOWN ahead of NOT: sell(n, 3)", new int[] {0, 1}, n -> x.sell(n, 3), UNKNOWN);
        refusedEach(x, "UNKNOWN ahead of NOT: sell(-1, n)", new int[] {0, 1}, n -> x.sell(-1, n), UNKNOWN);
        refusedEach(x, "OUTSIDE ahead of NOT: sell(n, n)", new int[] {0, 1}, n -> x.sell(n, n), OUTSIDE);
    }

    private static void promise13Keep() {
        checks.sentence("13: All as it is .. is kept (k 0, 1): the DAY. UNKNOWN: no such k");
        Run x = busyWood();
        refusedEach(x, "keep(n)", new int[] {-1, 2, 3}, x::keep, UNKNOWN);
        refusedEach(x, "keep(n)", WILD, x::keep, UNKNOWN);
        String before = x.now();
        checks.due("keep(0)", x.keep(0), 3);
        checks.due("keep(1)", x.keep(1), 3);
        checks.holds("the wood is as it was", x.now().equals(before));
        Run y = new Run();
        checks.due("keep(0) of a new object", y.keep(0), 0);
        checks.due("back(0)", y.back(0), 0);
        Run last = onDay(9999);
        checks.due("keep(1) on the last DAY", last.keep(1), 9999);
    }

    private static void promise13AllAsItIs() {
        checks.sentence("13: All as it is (DAY, BRANCHES, LOANS, what FAILED, what is BURNT, SOLD) is kept");
        for (int k = 0; k < 2; k++) {
            Run x = busyWood();
            String before = x.now();
            x.keep(k);
            x.days(40);
            x.borrow(0, 5);
            x.borrow(1, 5);
            x.sell(0, 1);
            x.fire(0);
            checks.holds("much is otherwise", !x.now().equals(before));
            checks.due("back(" + k + ")", x.back(k), 3);
            checks.holds("as it was kept in " + k, x.now().equals(before));
        }
    }

    private static void promise14Back() {
        checks.sentence("14: It is as it was kept: the DAY. UNKNOWN");
        Run x = checks.wood("hollow 99 1 1;hands 0");
        x.borrow(0, 1);
        x.days(1);
        x.keep(0);
        String first = x.now();
        x.days(1);
        x.borrow(0, 2);
        x.keep(1);
        String second = x.now();
        x.days(5);
        refusedEach(x, "back(n)", new int[] {-1, 2, 3}, x::back, UNKNOWN);
        refusedEach(x, "back(n)", WILD, x::back, UNKNOWN);
        for (int i = 0; i < 3; i++) {
            checks.due("back(0)", x.back(0), 1);
            checks.holds("as it was first", x.now().equals(first));
            x.days(9);
            checks.due("back(1)", x.back(1), 2);
            checks.holds("as it was then", x.now().equals(second));
            x.borrow(0, 3);
        }
        x.keep(0);
        x.days(1);
        checks.due("kept anew", x.back(0), 2);
        checks.due("with three LOANS", x.count(3), 3);
        checks.due("the other stays kept", x.back(1), 2);
        checks.due("with two", x.count(3), 2);
    }

    private static void promise14NothingKept() {
        checks.sentence("14: UNKNOWN; NOT: nothing was kept since the last text");
        for (int k = 0; k < 2; k++) {
            int one = k;
            int other = 1 - k;
            Run x = new Run();
            checks.refused(x, "back of nothing", () -> x.back(one), NOT);
            x.keep(one);
            checks.refused(x, "the other one's", () -> x.back(other), NOT);
            checks.due("back(" + one + ")", x.back(one), 0);
            checks.tell(x, "oak 9 0 9", 1);
            checks.refused(x, "behind a text", () -> x.back(one), NOT);
            x.keep(one);
            x.writeText("oak 9 0");
            x.wood();
            checks.due("behind a text that was refused", x.back(one), 0);
            x.erase();
            checks.due("behind erase()", x.back(one), 0);
            refusedEach(x, "UNKNOWN ahead of NOT", new int[] {-1, 2}, x::back, UNKNOWN);
        }
    }

    private static void promise15Later() {
        checks.sentence("15: LATER: OWED to a TREE. UNKNOWN; OUTSIDE");
        Run x = busyWood();
        checks.due("later(0, 0)", x.later(0, 0), 201);
        checks.due("later(0, 1)", x.later(0, 1), 121);
        checks.due("later(1, 0)", x.later(1, 0), 600);
        checks.due("later(1, 1)", x.later(1, 1), 642);
        checks.due("a BURNT one", x.later(2, 99), 0);
        checks.due("a SOLD one", x.later(3, 0), 0);
        refusedEach(x, "later(0, n)", new int[] {-1, 100, 101}, n -> x.later(0, n), OUTSIDE);
        refusedEach(x, "later(0, n)", WILD, n -> x.later(0, n), OUTSIDE);
        refusedEach(x, "later(n, 0)", new int[] {-1, 4, 6}, n -> x.later(n, 0), UNKNOWN);
        refusedEach(x, "later(n, 0)", WILD, n -> x.later(n, 0), UNKNOWN);
        refusedEach(x, "later(n, 100): the first that fits", new int[] {-1, 4}, n -> x.later(n, 100), UNKNOWN);
    }

    private static void promise16All() {
        checks.sentence("16: LATER: all that is OWED (what 0), how many have FAILED (1). OUTSIDE");
        Run x = busyWood();
        checks.due("all(0, 0)", x.all(0, 0), 801);
        checks.due("all(1, 0)", x.all(1, 0), 763);
        checks.due("all(0, 1)", x.all(0, 1), 1);
        checks.due("all(9, 1)", x.all(9, 1), 1);
        checks.due("all(10, 1)", x.all(10, 1), 2);
        for (int t : new int[] {0, 99}) {
            refusedEach(x, "all(" + t + ", n)", new int[] {-1, 2, MIN, MAX}, n -> x.all(t, n), OUTSIDE);
        }
        refusedEach(x, "all(n, 0)", new int[] {-1, 100}, n -> x.all(n, 0), OUTSIDE);
        refusedEach(x, "all(n, 1)", new int[] {-1, 100}, n -> x.all(n, 1), OUTSIDE);
        refusedEach(x, "all(n, 0)", WILD, n -> x.all(n, 0), OUTSIDE);
    }

    private static void promise17Clear() {
        checks.sentence("17: CLEAR; NONE");
        Run x = checks.wood("oak 9 0 9;oak 9 0 9;part 1 1;hands 1");
        checks.due("no LOANS", x.clear(), 0);
        x.borrow(0, 3);
        checks.due("three DAYS' work", x.clear(), 3);
        x.days(2);
        checks.due("one DAY's work", x.clear(), 1);
        x.borrow(1, 9);
        checks.due("ten", x.clear(), 10);
        x.fire(1);
        checks.due("one again", x.clear(), 1);
        checks.tell(x, "hands 0", 1);
        x.borrow(0, 1);
        checks.due("never", x.clear(), NONE);
    }

    private static void promise18Hut() {
        checks.sentence("18: HUT: OWED together (tree NONE), BRANCHES from a TREE. OUTSIDE: b, t; UNKNOWN");
        Run x = busyWood();
        checks.due("OWED together", x.hut(35, 1, NONE), 19 * 107 + 16 * 110);
        checks.due("from 0", x.hut(35, 1, 0), 16);
        checks.due("from 1", x.hut(35, 1, 1), 19);
        checks.due("from a BURNT one", x.hut(35, 1, 2), 0);
        checks.due("from a SOLD one", x.hut(35, 1, 3), 0);
        for (int tree : new int[] {NONE, 0, 3}) {
            refusedEach(x, "hut(n, 0, " + tree + ")", new int[] {0, -1, 100, MIN, MAX}, n -> x.hut(n, 0, tree), OUTSIDE);
            refusedEach(x, "hut(1, n, " + tree + ")", new int[] {-1, 31, MIN, MAX}, n -> x.hut(1, n, tree), OUTSIDE);
            refusedEach(x, "hut(36, n, " + tree + ")", new int[] {-1, 31}, n -> x.hut(36, n, tree), OUTSIDE);
        }
        refusedEach(x, "hut(1, 0, n)", new int[] {-2, -3, 4, 6}, n -> x.hut(1, 0, n), UNKNOWN);
        refusedEach(x, "hut(1, 0, n)", WILD, n -> x.hut(1, 0, n), UNKNOWN);
        refusedEach(x, "hut(0, 0, n): the first that fits", new int[] {-2, 4}, n -> x.hut(0, 0, n), UNKNOWN);
        refusedEach(x, "hut(1, 31, n): the first that fits", new int[] {-2, 4}, n -> x.hut(1, 31, n), UNKNOWN);
    }

    private static void promise18None() {
        checks.sentence("18: NONE: there is no such row");
        Run x = busyWood();
        checks.due("35 of 35", x.hut(35, 0, NONE), 3500);
        checks.unchanged(x, "36 of 35", () -> x.hut(36, 0, NONE), NONE);
        for (int tree = 0; tree < 4; tree++) checks.due("36 of 35, from " + tree, x.hut(36, 0, tree), NONE);
        refusedEach(x, "36 of 35, from n", new int[] {-2, 4}, n -> x.hut(36, 0, n), UNKNOWN);
        checks.due("99 of 35", x.hut(99, 30, NONE), NONE);
        checks.due("35 of 35 again", x.hut(35, 0, 1), 19);
    }

    private static void promise19Enough() {
        checks.sentence("19: ENOUGH; NONE. OUTSIDE");
        Run x = busyWood();
        checks.due("enough(9): not DUE yet", x.enough(9), 0);
        checks.due("enough(10)", x.enough(10), 2);
        refusedEach(x, "enough(n)", new int[] {0, -1, 100, 101}, x::enough, OUTSIDE);
        refusedEach(x, "enough(n)", WILD, x::enough, OUTSIDE);
        Run y = checks.wood("birch 99 50 9;birch 99 50 9;hands 99");
        y.borrow(0, 99);
        y.borrow(1, 99);
        checks.due("29700, 44550 less 2 of 9900", y.enough(2), NONE);
        checks.due("in 1 DAY none is DUE", y.enough(1), 0);
    }

    private static void promise20Rid() {
        checks.sentence("20: RID. OUTSIDE");
        Run x = busyWood();
        checks.due("rid(7, 0)", x.rid(7, 0), 7);
        checks.due("rid(7, 1)", x.rid(7, 1), 10);
        for (int part = 0; part < 2; part++) {
            int p = part;
            refusedEach(x, "rid(n, " + part + ")", new int[] {-1, 11, MIN, MAX}, n -> x.rid(n, p), OUTSIDE);
        }
        for (int p : new int[] {0, 10}) {
            refusedEach(x, "rid(" + p + ", n)", new int[] {-1, 2, MIN, MAX}, n -> x.rid(p, n), OUTSIDE);
        }
        refusedEach(x, "rid(n, 2)", WILD, n -> x.rid(n, 2), OUTSIDE);
    }

    private static void promise21Grandson() {
        checks.sentence("21: GRANDSON. OUTSIDE: t (0 .. 99)");
        Run x = busyWood();
        checks.due("grandson(0)", x.grandson(0), 35);
        checks.due("grandson(99)", x.grandson(99), 45);
        refusedEach(x, "grandson(n)", new int[] {-1, 100, 101}, x::grandson, OUTSIDE);
        refusedEach(x, "grandson(n)", WILD, x::grandson, OUTSIDE);
    }

    private static void promise22ToWhom() {
        checks.sentence("22: TO WHOM. OUTSIDE: b, t, v (0 .. 1000000)");
        Run x = busyWood();
        checks.due("toWhom(99, 0, 9900)", x.toWhom(99, 0, 9900), 3);
        checks.due("toWhom(1, 30, 310)", x.toWhom(1, 30, 310), 2);
        checks.due("v 0", x.toWhom(1, 0, 0), 0);
        checks.due("v 1000000", x.toWhom(99, 30, 1000000), 0);
        refusedEach(x, "toWhom(n, 0, 100)", new int[] {0, -1, 100, MIN, MAX}, n -> x.toWhom(n, 0, 100), OUTSIDE);
        refusedEach(x, "toWhom(1, n, 100)", new int[] {-1, 31, MIN, MAX}, n -> x.toWhom(1, n, 100), OUTSIDE);
        refusedEach(x, "toWhom(1, 0, n)", new int[] {-1, 1000001, MIN, MAX}, n -> x.toWhom(1, 0, n), OUTSIDE);
    }

    private static void promise23Count() {
        checks.sentence("23: 0 TREES .. 7 bytes of THE TEXT. OUTSIDE");
        Run x = busyWood();
        int[] due = {4, 1, 1, 2, 3, 1, 801, 11};
        for (int what = 0; what < 8; what++) {
            int w = what;
            checks.unchanged(x, "count(" + what + ")", () -> x.count(w), due[what]);
        }
        refusedEach(x, "count(n)", new int[] {-1, 8, 9}, x::count, OUTSIDE);
        refusedEach(x, "count(n)", WILD, x::count, OUTSIDE);
    }

    private static void foretoldBehindTheLastDay() {
        checks.sentence("FORETOLD .. in t DAYS (0 .. 99): FULL is named by days alone");
        Run x = onDay(9999);
        x.borrow(0, 1);
        checks.due("later(0, 99)", x.later(0, 99), 199);
        checks.due("all(99, 1): DUE on DAY 10098", x.all(99, 1), 0);
        checks.due("clear()", x.clear(), NONE);
        checks.due("grandson(99)", x.grandson(99), 8);
        checks.due("enough(99)", x.enough(99), 0);
        checks.due("DAY", x.count(4), 9999);
    }
}
