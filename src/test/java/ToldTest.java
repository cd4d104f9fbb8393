/** Promises 1 to 8: what is told. */
public final class ToldTest {
    private static final int NONE = -1, UNKNOWN = -2, OUTSIDE = -3, NOT = -4, FULL = -5;
    private static final Checks checks = new Checks();

    public static void main(String[] args) {
        promise1NewObject();
        promise2Write();
        promise3Erase();
        promise4FaultsOfWordsAndSigns();
        promise4FaultsOfNumbers();
        promise4FaultsOfTreesAndQuarrels();
        promise4Lines();
        promise5Wood();
        promise5WhatStaysAndWhatGoes();
        promise6Tree();
        promise6Cross();
        promise7Loan();
        promise8As();
        checks.end();
    }

    private static void promise1NewObject() {
        Run x = new Run();
        int[] due = {0, 0, 5, 0, 0, 0, 0, 0};
        for (int what = 0; what < 8; what++) checks.due("new: count(" + what + ")", x.count(what), due[what]);
        checks.due("new: tree(0, 0)", x.tree(0, 0), UNKNOWN);
        checks.due("new: loan(0, 0)", x.loan(0, 0), UNKNOWN);
        checks.due("new: back(0)", x.back(0), NOT);
        checks.due("new: back(1)", x.back(1), NOT);
        checks.wood("oak 1 1 1");
        checks.due("another object's wood is its own", x.count(0), 0);
    }

    private static void promise2Write() {
        Run x = new Run();
        for (int n : new int[] {0, 9, -1, Integer.MIN_VALUE, Integer.MAX_VALUE}) {
            checks.refused(x, "write(0, " + n + ")", () -> x.write(0, n), OUTSIDE);
        }
        long oak1 = 'o' | 'a' << 8 | 'k' << 16 | (long) '1' << 24;
        checks.due("write, byte 0 first", x.write(oak1 | 0xffffffff00000000L, 4), 4);
        checks.due("the bytes behind n are not written", x.fault(), 4);
        checks.due("write once more", x.write(0x3120_3120L, 4), 8);
        checks.due("oak1 1 1", x.fault(), NONE);
        checks.due("wood()", x.wood(), 1);
        checks.due("write(-1, 8): bytes 255", x.write(-1, 8), 8);
        checks.due("byte 255 is a TOKEN by itself", x.fault(), 0);
        x.erase();
        for (int i = 1; i <= 24; i++) checks.due("write blanks", x.write(0x2020202020202020L, 8), 8 * i);
        checks.due("193 bytes", x.write(' ', 1), 193);
        checks.refused(x, "write of 8 to 201", () -> x.write(0, 8), FULL);
        checks.refused(x, "write of 9 at 193", () -> x.write(0, 9), OUTSIDE);
        checks.due("200 bytes", x.write(0x20202020202020L, 7), 200);
        checks.due("blanks alone end too soon", x.fault(), 200);
        checks.refused(x, "write of 1 to 201", () -> x.write(0, 1), FULL);
        checks.due("erase() of 200", x.erase(), 200);
        checks.due("write behind erase", x.write(0, 8), 8);
        Run y = new Run();
        y.writeText(" ".repeat(192) + "wood   ;");
        checks.due("a ; as the last byte of 200", y.fault(), 200);
    }

    private static void promise3Erase() {
        Run x = checks.wood("oak 1 1 1");
        checks.due("erase() of none", x.erase(), 0);
        x.writeText("wood;oak");
        checks.due("erase()", x.erase(), 8);
        checks.due("count(7)", x.count(7), 0);
        checks.due("erase() again", x.erase(), 0);
        checks.due("fault() of none", x.fault(), 0);
        checks.due("erase leaves the wood", x.count(0), 1);
    }

    private static void promise4FaultsOfWordsAndSigns() {
        Run x = new Run();
        checks.fault(x, "", 0);
        checks.fault(x, "   ", 3);
        checks.fault(x, "wood", NONE);
        checks.fault(x, "  wood  ", NONE);
        checks.fault(x, "woods", 0);
        checks.fault(x, "woo", 0);
        checks.fault(x, "food", 0);
        checks.fault(x, "woodz", 0);
        checks.fault(x, "wooda", 0);
        checks.fault(x, " Wood", 1);
        checks.fault(x, "woodoak 1 1 1", 0);
        checks.fault(x, "wood oak 1 1 1", 5);
        checks.fault(x, "wo od", 0);
        checks.fault(x, "wood 1", 5);
        checks.fault(x, "wood;", 5);
        checks.fault(x, "wood; ", 6);
        checks.fault(x, ";wood", 0);
        checks.fault(x, "wood;;wood", 5);
        checks.fault(x, "wood ;  wood", NONE);
        checks.fault(x, "wood,wood", 4);
        checks.fault(x, "wood.", 4);
        checks.fault(x, "7", 0);
        checks.fault(x, "oak", 3);
        checks.fault(x, "oak ", 4);
        checks.fault(x, "oak 1", 5);
        checks.fault(x, "oak 1 1", 7);
        checks.fault(x, "oak 1 1 ;", 8);
        checks.fault(x, "oak 1 1 1 1", 10);
        checks.fault(x, "oak 1 1 1oak 1 1 1", 9);
        checks.fault(x, "oak -1 1 1", 4);
        checks.fault(x, "oak 1\t1 1", 5);
        checks.fault(x, "oak 1,1,1", 5);
        checks.fault(x, "oak one 1 1", 4);
        checks.fault(x, "oak1 1 1;birch2 2 2;twin3 3 3;hollow4 4 4;part0 1;quarrel0 1;hands7", NONE);
        checks.fault(x, "oak", 3);
        checks.fault(x, "`", 0);
        checks.fault(x, "{", 0);
        checks.fault(x, "oak 1 1 /", 8);
        checks.fault(x, "oak 1 1 :", 8);
        checks.fault(x, "wood\0", 4);
        checks.fault(x, "wood\u00e9", 4);
        checks.fault(x, "tree 1 1 1", 0);
    }

    private static void promise4FaultsOfNumbers() {
        Run x = new Run();
        checks.fault(x, "oak 0 0 1", NONE);
        checks.fault(x, "oak 00 00 01", NONE);
        checks.fault(x, "oak 99 50 99", NONE);
        checks.fault(x, "oak 100 50 99", 4);
        checks.fault(x, "oak 001 50 99", 4);
        checks.fault(x, "oak 99 51 99", 7);
        checks.fault(x, "oak 99 050 99", 7);
        checks.fault(x, "oak 99 50 0", 10);
        checks.fault(x, "oak 99 50 00", 10);
        checks.fault(x, "oak 99 50 100", 10);
        checks.fault(x, "oak 99 50 4294967297", 10);
        checks.fault(x, "oak 1 1 1;part 0 9", NONE);
        checks.fault(x, "oak 1 1 1;part 0 0", NONE);
        checks.fault(x, "oak 1 1 1;part 00 09", NONE);
        checks.fault(x, "oak 1 1 1;part 0 10", 17);
        checks.fault(x, "oak 1 1 1;part 0 000", 17);
        checks.fault(x, "hands 0", NONE);
        checks.fault(x, "hands 99", NONE);
        checks.fault(x, "hands 100", 6);
        checks.fault(x, "hands 007", 6);
        checks.fault(x, "hands", 5);
    }

    private static void promise4FaultsOfTreesAndQuarrels() {
        Run x = new Run();
        String six = "oak 1 1 1;birch 1 1 1;twin 1 1 1;hollow 1 1 1;oak 1 1 1;oak 1 1 1";
        checks.fault(x, six, NONE);
        checks.fault(x, six + ";oak 1 1 1", six.length() + 1);
        checks.fault(x, six + "; hollow", six.length() + 2);
        checks.fault(x, six + ";wood;oak 1 1 1", NONE);
        checks.fault(x, "part 0 0", 5);
        checks.fault(x, "part", 4);
        checks.fault(x, "part 0 0;oak 1 1 1", 5);
        checks.fault(x, "oak 1 1 1;part 1 0", 15);
        checks.fault(x, "oak 1 1 1;wood;part 0 0", 20);
        checks.fault(x, "quarrel 0 1", 8);
        checks.fault(x, "oak 1 1 1;quarrel 0 0", 20);
        checks.fault(x, "oak 1 1 1;quarrel 0 1", 20);
        checks.fault(x, "oak 1 1 1;quarrel 1 0", 18);
        String two = "oak 1 1 1;oak 1 1 1";
        checks.fault(x, two + ";quarrel 0 1;quarrel 1 0;quarrel 01 00", NONE);
        checks.fault(x, two + ";quarrel 1 1", 30);
        checks.fault(x, two + ";quarrel 1 01", 30);
        checks.fault(x, two + ";quarrel 0 2", 30);
        checks.fault(x, two + ";quarrel 2 0", 28);
        checks.fault(x, two + ";quarrel 2 2", 28);
        checks.fault(x, two + ";quarrel 0 001", 30);
        checks.fault(x, two + ";quarrel 0", 29);
        String sixQuarrels = two + ";quarrel 0 1".repeat(6);
        checks.fault(x, sixQuarrels, NONE);
        checks.fault(x, sixQuarrels + ";quarrel 0 1", sixQuarrels.length() + 1);
        checks.fault(x, sixQuarrels + ";wood;" + two + ";quarrel 0 1", NONE);
        checks.tell(x, sixQuarrels, 8);
        checks.fault(x, "quarrel 0 1", 0);
        checks.fault(x, "part 1 1;part 2 1", 14);
        checks.fault(x, "oak 1 1 1;".repeat(4) + "birch 1 1 1", 40);
        checks.fault(x, "wood;quarrel 0 1", 13);
    }

    private static void promise4Lines() {
        Run x = new Run();
        String twelve = "wood" + ";wood".repeat(11);
        checks.fault(x, twelve, NONE);
        checks.fault(x, twelve + "  ", NONE);
        checks.fault(x, twelve + ";", 59);
        checks.fault(x, twelve + " ;wood", 60);
        checks.fault(x, twelve + " wood", 60);
        checks.fault(x, "wood" + ";wood".repeat(10) + ";", 55);
    }

    private static void promise5Wood() {
        Run x = new Run();
        checks.refused(x, "wood() of no TEXT", x::wood, NOT);
        checks.tell(x, "hands 7", 1);
        checks.due("hands told", x.count(2), 7);
        checks.tell(x, "oak 1 2 3;birch 4 5 6;part 0 8;quarrel 1 0", 4);
        checks.due("hands stay told", x.count(2), 7);
        checks.due("trees", x.count(0), 2);
        checks.due("quarrels", x.count(1), 1);
        checks.tell(x, "twin 9 8 7", 1);
        checks.due("one more tree", x.count(0), 3);
        checks.due("the earlier one stays", x.tree(0, 4), 8);
        checks.due("the new one", x.tree(2, 0), 2);
        x.writeText("wood;oak 1 1 1;ivy");
        checks.refused(x, "wood() with a FAULT", x::wood, NOT);
        checks.due("THE TEXT stays", x.erase(), 18);
        checks.tell(x, "part 0 1;hands 1;hands 2;part 0 3", 4);
        checks.due("LINES in their order: hands", x.count(2), 2);
        checks.due("LINES in their order: part", x.tree(0, 4), 3);
        checks.tell(x, "hands 9;wood;oak 7 7 7", 3);
        checks.due("behind wood: trees", x.count(0), 1);
        checks.due("behind wood: quarrels", x.count(1), 0);
        checks.due("behind wood: hands", x.count(2), 5);
        checks.due("behind wood: the first PART again", x.tree(0, 4), 0);
        checks.tell(x, "wood", 1);
        checks.due("no trees", x.count(0), 0);
        checks.tell(x, "wood" + ";wood".repeat(11), 12);
    }

    private static void promise5WhatStaysAndWhatGoes() {
        Run x = checks.wood("oak 9 9 1;oak 8 9 1;oak 7 9 1;part 2 4;hands 0");
        x.borrow(0, 4);
        x.borrow(2, 1);
        x.days(3);
        x.sell(0, 1);
        x.fire(4);
        x.keep(0);
        x.keep(1);
        checks.due("FAILED", x.count(5), 2);
        checks.tell(x, "hands 3", 1);
        int[] due = {3, 0, 3, 0, 0, 0, 0, 0};
        for (int what = 0; what < 8; what++) checks.due("behind a text: count(" + what + ")", x.count(what), due[what]);
        for (int tree = 0; tree < 3; tree++) {
            checks.due("BRANCHES as told", x.tree(tree, 1), 9 - tree);
            checks.due("neither BURNT nor SOLD", x.tree(tree, 6), 0);
        }
        checks.due("nothing is kept: 0", x.back(0), NOT);
        checks.due("nothing is kept: 1", x.back(1), NOT);
    }

    private static void promise6Tree() {
        Run x = checks.wood("oak 20 10 9;birch 30 5 40;twin 15 21 3;hollow 9 7 6;part 1 2;part 2 7");
        int[][] due = {{0, 20, 10, 9, 0, 0, 0, 0}, {1, 30, 5, 40, 2, 0, 0, 0}, {2, 15, 21, 3, 7, 0, 0, 0},
            {3, 9, 7, 6, 0, 0, 0, 0}};
        for (int tree = 0; tree < 4; tree++) {
            for (int what = 0; what < 8; what++) {
                checks.due("tree(" + tree + ", " + what + ")", x.tree(tree, what), due[tree][what]);
            }
        }
        x.borrow(0, 3);
        x.borrow(0, 2);
        checks.due("BRANCHES that it has", x.tree(0, 1), 15);
        checks.due("OWED to it", x.tree(0, 5), 500);
        checks.due("OWED to another", x.tree(1, 5), 0);
        x.sell(1, 0);
        x.fire(7);
        checks.due("SOLD", x.tree(1, 6), 2);
        checks.due("its BRANCHES are the other's", x.tree(1, 1), 0);
        checks.due("BURNT", x.tree(2, 6), 1);
        checks.due("BRANCHES of a BURNT one stay told", x.tree(2, 1), 15);
        checks.refused(x, "tree(4, 0)", () -> x.tree(4, 0), UNKNOWN);
        checks.refused(x, "tree(-1, 0)", () -> x.tree(-1, 0), UNKNOWN);
        checks.refused(x, "tree(4, 9)", () -> x.tree(4, 9), UNKNOWN);
        checks.refused(x, "tree(0, 8)", () -> x.tree(0, 8), OUTSIDE);
        checks.refused(x, "tree(3, -1)", () -> x.tree(3, -1), OUTSIDE);
        checks.due("tree(MIN, MIN)", x.tree(Integer.MIN_VALUE, Integer.MIN_VALUE), UNKNOWN);
        checks.due("tree(MAX, 0)", x.tree(Integer.MAX_VALUE, 0), UNKNOWN);
    }

    private static void promise6Cross() {
        Run x = checks.wood("oak 9 0 9;oak 9 0 9;oak 9 0 9;quarrel 0 1;quarrel 2 0;part 2 1;hands 0");
        x.borrow(1, 2);
        checks.due("0 quarrels with one OWED more", x.tree(0, 7), 1);
        checks.due("1 itself is not", x.tree(1, 7), 0);
        checks.due("2 does not quarrel with 1", x.tree(2, 7), 0);
        x.borrow(2, 2);
        checks.due("a quarrel told the other way", x.tree(0, 7), 1);
        x.sell(1, 2);
        checks.due("1 SOLD: nothing is OWED to it", x.tree(1, 5), 0);
        checks.due("0 is still CROSS with 2", x.tree(0, 7), 1);
        x.fire(1);
        checks.due("what was OWED is burnt", x.tree(0, 7), 0);
        Run y = checks.wood("oak 9 0 9;oak 9 0 9;quarrel 0 1;hands 0");
        y.borrow(0, 1);
        checks.due("1 is CROSS", y.tree(1, 7), 1);
        Run z = checks.wood("birch 9 0 9;oak 9 0 9;oak 1 0 1;quarrel 0 1;hands 1");
        z.borrow(2, 1);
        z.sell(2, 1);
        checks.due("0 is CROSS with 1, OWED by a sale", z.tree(0, 7), 1);
        z.days(1);
        checks.due("like much (nothing) is OWED to both", z.tree(0, 7), 0);
    }

    private static void promise7Loan() {
        Run x = checks.wood("oak 20 10 9;birch 30 5 40;hollow 9 7 2;hands 1");
        x.days(3);
        x.borrow(0, 4);
        x.borrow(1, 7);
        x.borrow(2, 2);
        int[][] due = {{0, 4, 400, 12, 0}, {1, 7, 700, 4, 0}, {2, 2, 200, 5, 0}};
        for (int loan = 0; loan < 3; loan++) {
            for (int what = 0; what < 5; what++) {
                checks.due("loan(" + loan + ", " + what + ")", x.loan(loan, what), due[loan][what]);
            }
        }
        x.days(2);
        checks.due("the BIRCH's FAILED", x.loan(1, 4), 1);
        checks.due("the OAK's did not", x.loan(0, 4), 0);
        checks.due("the BIRCH's OWED: 635, 566", x.loan(1, 2), 566);
        checks.due("the HOLLOW's OWED", x.loan(2, 2), 228);
        checks.due("the OAK's OWED", x.loan(0, 2), 484);
        checks.refused(x, "loan(3, 0)", () -> x.loan(3, 0), UNKNOWN);
        checks.refused(x, "loan(-1, 0)", () -> x.loan(-1, 0), UNKNOWN);
        checks.refused(x, "loan(3, 5)", () -> x.loan(3, 5), UNKNOWN);
        checks.refused(x, "loan(0, 5)", () -> x.loan(0, 5), OUTSIDE);
        checks.refused(x, "loan(0, -1)", () -> x.loan(0, -1), OUTSIDE);
        checks.due("loan(MIN, 0)", x.loan(Integer.MIN_VALUE, 0), UNKNOWN);
        checks.due("loan(MAX, 0)", x.loan(Integer.MAX_VALUE, 0), UNKNOWN);
    }

    private static void promise8As() {
        Run x = checks.wood("oak 20 11 9;birch 30 13 40;twin 15 21 3;hollow 9 7 6");
        int[][] due = {{111, 111, NOT, NOT, NOT}, {113, 113, 113, NOT, NOT}, {110, 110, NOT, 110, NOT},
            {107, NOT, NOT, NOT, 107}};
        for (int tree = 0; tree < 4; tree++) {
            for (int kind = 0; kind < 5; kind++) {
                checks.due("as(" + tree + ", " + kind + ")", x.as(tree, kind), due[tree][kind]);
            }
        }
        x.fire(0);
        checks.due("as of a BURNT one", x.as(1, 0), 113);
        checks.refused(x, "as(4, 0)", () -> x.as(4, 0), UNKNOWN);
        checks.refused(x, "as(-1, 5)", () -> x.as(-1, 5), UNKNOWN);
        checks.refused(x, "as(0, 5)", () -> x.as(0, 5), OUTSIDE);
        checks.refused(x, "as(0, -1)", () -> x.as(0, -1), OUTSIDE);
        checks.refused(x, "as(0, 2)", () -> x.as(0, 2), NOT);
        checks.due("as(0, MIN)", x.as(0, Integer.MIN_VALUE), OUTSIDE);
    }
}
