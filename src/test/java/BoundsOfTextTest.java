/** "What it is" and the first part of "Terms": each sentence that names a bound, on both of its sides. */
public final class BoundsOfTextTest {
    private static final int NONE = -1, UNKNOWN = -2, NOT = -4, FULL = -5;
    private static final String[] KINDS = {"oak", "birch", "twin", "hollow"};
    private static final String TWO = "oak 1 1 1;oak 1 1 1";
    private static final Checks checks = new Checks();

    public static void main(String[] args) {
        objectsAreUsedFor512Calls();
        sixTrees();
        seventhTreeBehindEarlierTexts();
        kinds();
        branches();
        rates();
        terms();
        parts();
        partsAtFirst();
        quarrels();
        quarrelsAreOfTwoTrees();
        hands();
        bytesOfTheText();
        twelveLines();
        anEmptyTextEndsTooSoon();
        behindTheTwelfthLine();
        semicolonsBetween();
        wordsAsWritten();
        woodForgets();
        seventhTreeAtItsWord();
        quarrelWithItself();
        seventhQuarrelAtItsWord();
        treesBehindTheLinesAhead();
        smallLetters();
        digits();
        numbersOfOneOrTwoDigits();
        blanks();
        whereBlanksAreNeeded();
        earlierTextsStay();
        faultAtTheFirstToken();
        faultAtTheEnd();
        linesInTheirOrder();
        behindTheLines();
        checks.end();
    }

    private static void objectsAreUsedFor512Calls() {
        checks.sentence("An object is used for at most 512 calls after it has been made");
        Run x = new Run();
        x.writeText("oak 99 0 9;hands 1");
        x.wood();
        for (int day = 1; x.length() < Run.MOST_CALLS; day++) {
            checks.due("borrow(0, 1) on DAY " + (day - 1), x.borrow(0, 1), 0);
            checks.due("days(1)", x.days(1), day);
        }
        checks.due("calls made", x.length(), 512);
    }

    private static String treesOf(int n) {
        StringBuilder text = new StringBuilder("oak 1 1 1");
        for (int i = 1; i < n; i++) text.append(";").append(KINDS[i % 4]).append(" ").append(i).append(" 1 1");
        return text.toString();
    }

    private static void sixTrees() {
        checks.sentence("TREES are 0, 1 .. as they come, 6 at most (none at first)");
        Run none = new Run();
        checks.due("count(0) at first", none.count(0), 0);
        checks.due("tree(0, 0) at first", none.tree(0, 0), UNKNOWN);
        for (int n = 1; n <= 6; n++) {
            Run x = checks.wood(treesOf(n));
            checks.due("count(0) of " + n, x.count(0), n);
            checks.due("the last one's BRANCHES", x.tree(n - 1, 1), n == 1 ? 1 : n - 1);
            checks.due("the last one's KIND", x.tree(n - 1, 0), (n - 1) % 4);
            checks.due("no TREE " + n, x.tree(n, 0), UNKNOWN);
        }
        checks.fault(none, treesOf(7), treesOf(6).length() + 1);
    }

    private static void seventhTreeBehindEarlierTexts() {
        checks.sentence("6 at most .. what earlier texts told stays");
        Run x = checks.wood(treesOf(5));
        checks.fault(x, "oak 1 1 1", NONE);
        checks.fault(x, "oak 1 1 1;twin 1 1 1", 10);
        checks.tell(x, "hollow 7 8 9", 1);
        checks.due("count(0)", x.count(0), 6);
        checks.due("tree(5, 1)", x.tree(5, 1), 7);
        for (String kind : KINDS) checks.fault(x, kind + " 1 1 1", 0);
        checks.fault(x, "wood;" + treesOf(6), NONE);
        checks.fault(x, "wood;" + treesOf(7), 5 + treesOf(6).length() + 1);
    }

    private static void kinds() {
        checks.sentence("of a KIND, 0 OAK, 1 BIRCH, 2 TWIN, 3 HOLLOW");
        for (int kind = 0; kind < 4; kind++) {
            checks.due("KIND of " + KINDS[kind], checks.wood(KINDS[kind] + " 1 1 1").tree(0, 0), kind);
        }
    }

    /** A number of a LINE: those that can stand are told, those that cannot are at FAULT. */
    private static void numberOfATree(int place, int what, int[] good, int[] bad) {
        for (String kind : KINDS) {
            for (int n : good) {
                checks.due(kind + " told " + n, checks.wood(treeLine(kind, place, n)).tree(0, what), n);
            }
            for (int n : bad) checks.fault(new Run(), treeLine(kind, place, n), kind.length() + 1 + 2 * place);
        }
    }

    private static String treeLine(String kind, int place, int n) {
        String[] numbers = {"7", "7", "7"};
        numbers[place] = String.valueOf(n);
        return kind + " " + String.join(" ", numbers);
    }

    private static void branches() {
        checks.sentence("with BRANCHES (0 .. 99)");
        numberOfATree(0, 1, new int[] {0, 1, 98, 99}, new int[] {100, 101, 255, 999});
        checks.fault(new Run(), "oak -1 7 7", 4);
    }

    private static void rates() {
        checks.sentence("a RATE (0 .. 50)");
        numberOfATree(1, 2, new int[] {0, 1, 49, 50}, new int[] {51, 52, 99, 100});
    }

    private static void terms() {
        checks.sentence("a TERM (1 .. 99 DAYS)");
        numberOfATree(2, 3, new int[] {1, 2, 98, 99}, new int[] {0, 100, 101});
    }

    private static void parts() {
        checks.sentence("in a PART of the wood (0 .. 9)");
        for (int part : new int[] {0, 1, 8, 9}) {
            checks.due("told " + part, checks.wood("oak 1 1 1;part 0 " + part).tree(0, 4), part);
        }
        for (int part : new int[] {10, 11, 99, 100}) checks.fault(new Run(), "oak 1 1 1;part 0 " + part, 17);
    }

    private static void partsAtFirst() {
        checks.sentence("PART .. 0 at first");
        Run x = checks.wood("oak 1 1 1;part 0 9;oak 1 1 1");
        checks.due("the one told", x.tree(0, 4), 9);
        checks.due("the one not told", x.tree(1, 4), 0);
        checks.tell(x, "wood;twin 1 1 1", 2);
        checks.due("a new TREE 0", x.tree(0, 4), 0);
    }

    private static void quarrels() {
        checks.sentence("QUARRELS are 6 at most (none at first)");
        checks.due("count(1) at first", new Run().count(1), 0);
        checks.due("count(1) of a wood", checks.wood(TWO).count(1), 0);
        for (int n = 1; n <= 6; n++) {
            checks.due("count(1) of " + n, checks.wood(TWO + ";quarrel 0 1".repeat(n)).count(1), n);
        }
        checks.fault(new Run(), TWO + ";quarrel 0 1".repeat(7), 19 + 6 * 12 + 1);
        Run x = checks.wood(TWO + ";quarrel 0 1".repeat(5));
        checks.fault(x, "quarrel 1 0", NONE);
        checks.fault(x, "quarrel 1 0;quarrel 1 0", 12);
    }

    private static void quarrelsAreOfTwoTrees() {
        checks.sentence("QUARRELS are .. two TREES");
        Run x = checks.wood(treesOf(6) + ";quarrel 0 5;quarrel 3 2");
        x.borrow(5, 1);
        for (int tree = 0; tree < 6; tree++) checks.due("CROSS by 5: " + tree, x.tree(tree, 7), tree == 0 ? 1 : 0);
        x.borrow(3, 1);
        for (int tree = 0; tree < 6; tree++) {
            checks.due("CROSS by 5 and 3: " + tree, x.tree(tree, 7), tree == 0 || tree == 2 ? 1 : 0);
        }
    }

    private static void hands() {
        checks.sentence("HANDS are 0 .. 99 (5 at first)");
        checks.due("count(2) at first", new Run().count(2), 5);
        checks.due("count(2) of a wood that tells none", checks.wood(TWO).count(2), 5);
        for (int hands : new int[] {0, 1, 98, 99}) {
            checks.due("told " + hands, checks.wood("hands " + hands).count(2), hands);
        }
        for (int hands : new int[] {100, 101, 255}) checks.fault(new Run(), "hands " + hands, 6);
    }

    private static void bytesOfTheText() {
        checks.sentence("THE TEXT is a row of bytes, 200 at most");
        Run x = new Run();
        x.writeText(" ".repeat(192) + "hands 7");
        checks.due("bytes", x.count(7), 199);
        checks.due("199 bytes stand", x.fault(), NONE);
        checks.refused(x, "two more", () -> x.write('7' | ' ' << 8, 2), FULL);
        checks.due("one more", x.write('7', 1), 200);
        checks.due("200 bytes stand", x.fault(), NONE);
        checks.refused(x, "a 201st", () -> x.write(' ', 1), FULL);
        checks.due("200 bytes are done", x.wood(), 1);
        checks.due("with the last of them", x.count(2), 77);
        checks.due("room again", x.write(0, 8), 8);
    }

    private static void twelveLines() {
        checks.sentence("LINES with ; (59) between, 1 to 12");
        for (int n = 1; n <= 12; n++) {
            Run x = new Run();
            x.writeText("hands 7" + ";hands 8".repeat(n - 1));
            checks.due("fault() of " + n, x.fault(), NONE);
            checks.due("wood() of " + n, x.wood(), n);
        }
        checks.fault(new Run(), "hands 7" + ";hands 8".repeat(12), 95);
        checks.fault(new Run(), "hands 7" + ";hands 8".repeat(20), 95);
    }

    private static void anEmptyTextEndsTooSoon() {
        checks.sentence("an empty TEXT ends too soon");
        Run x = new Run();
        checks.due("fault() at first", x.fault(), 0);
        checks.refused(x, "wood() at first", x::wood, NOT);
        checks.tell(x, "oak 1 1 1", 1);
        checks.due("fault() behind a text", x.fault(), 0);
        checks.refused(x, "wood() behind a text", x::wood, NOT);
        x.writeText("wood");
        x.erase();
        checks.due("fault() behind erase()", x.fault(), 0);
        checks.refused(x, "wood() behind erase()", x::wood, NOT);
        checks.fault(new Run(), " ", 1);
    }

    private static void behindTheTwelfthLine() {
        checks.sentence("behind the 12th no ; can stand");
        Run x = new Run();
        String eleven = "wood" + ";wood".repeat(10);
        checks.fault(x, eleven + ";", 55);
        checks.fault(x, eleven + ";wood", NONE);
        checks.fault(x, eleven + ";wood ", NONE);
        checks.fault(x, eleven + ";wood;", 59);
        checks.fault(x, eleven + ";wood  ;", 61);
        checks.fault(x, eleven + ";wood;wood", 59);
        checks.fault(x, eleven + ";wood;#", 59);
    }

    private static void semicolonsBetween() {
        checks.sentence("LINES with ; (59) between");
        Run x = new Run();
        checks.fault(x, "wood;wood", NONE);
        checks.fault(x, "wood:wood", 4);
        checks.fault(x, "wood<wood", 4);
        checks.fault(x, "wood wood", 5);
        checks.fault(x, ";wood", 0);
        checks.fault(x, "wood;", 5);
        checks.fault(x, "wood;;wood", 5);
        checks.fault(x, ";", 0);
    }

    private static void wordsAsWritten() {
        checks.sentence("each is one of: wood. oak B R T. birch B R T. twin B R T. hollow B R T. part I P. quarrel I J."
            + " hands H. (As written here, without points)");
        Run x = checks.wood(TWO);
        String[] words = {"wood", "oak", "birch", "twin", "hollow", "part", "quarrel", "hands"};
        String[] numbers = {"", " 1 1 1", " 1 1 1", " 1 1 1", " 1 1 1", " 1 0", " 1 0", " 1"};
        for (int i = 0; i < words.length; i++) {
            String line = words[i] + numbers[i];
            checks.fault(x, line, NONE);
            checks.fault(x, line + ".", line.length());
            checks.fault(x, line + " 1", line.length() + 1);
            checks.fault(x, line + " wood", line.length() + 1);
            checks.fault(x, words[i] + "s" + numbers[i], 0);
            checks.fault(x, "a" + line, 0);
            checks.fault(x, line.substring(1), 0);
            checks.fault(x, words[i].substring(0, words[i].length() - 1) + numbers[i], 0);
            for (int at = 0; at < words[i].length(); at++) {
                checks.fault(x, line.substring(0, at) + "x" + line.substring(at + 1), 0);
            }
            checks.fault(x, Character.toUpperCase(line.charAt(0)) + line.substring(1), 0);
            if (i > 0) checks.fault(x, line.substring(0, line.length() - 2), line.length() - 2);
            if (i > 0) checks.fault(x, words[i] + " wood", words[i].length() + 1);
        }
        for (String other : new String[] {"tree 1 1 1", "elm 1 1 1", "fire 0", "sell 0 1", "a", "z"}) checks.fault(x, other, 0);
    }

    private static void woodForgets() {
        checks.sentence("wood: no TREES, QUARRELS, HANDS 5");
        Run x = checks.wood(TWO + ";quarrel 0 1;hands 9");
        checks.tell(x, "wood", 1);
        int[] due = {0, 0, 5, 0, 0, 0, 0, 0};
        for (int what = 0; what < 8; what++) checks.due("count(" + what + ")", x.count(what), due[what]);
        checks.due("no TREE 0", x.tree(0, 0), UNKNOWN);
        checks.fault(x, "part 0 0", 5);
    }

    private static void seventhTreeAtItsWord() {
        checks.sentence("oak ..: one more .., a seventh cannot stand there (at its word)");
        Run x = checks.wood(treesOf(6));
        for (String kind : KINDS) {
            checks.fault(x, "hands 1;  " + kind + " 1 1 1", 10);
            checks.fault(x, kind, 0);
            checks.fault(x, kind + " 100 51 0", 0);
            checks.fault(x, "wood;" + kind + " 1 1 1", NONE);
            checks.fault(x, kind + " 1 1 1;wood", 0);
        }
    }

    private static void quarrelWithItself() {
        checks.sentence("quarrel: I, J unlike (else a FAULT at J)");
        Run x = checks.wood(treesOf(6));
        for (int tree = 0; tree < 6; tree++) {
            checks.fault(x, "quarrel " + tree + " " + tree, 10);
            checks.fault(x, "quarrel 0" + tree + "  " + tree, 12);
            checks.fault(x, "quarrel " + tree + " " + (tree + 1) % 6, NONE);
        }
        checks.fault(x, "quarrel 6 6", 8);
        checks.fault(x, "wood;oak 1 1 1;quarrel 0 0", 25);
    }

    private static void seventhQuarrelAtItsWord() {
        checks.sentence("quarrel: .. a seventh at its word");
        Run x = checks.wood(TWO + ";quarrel 0 1".repeat(6));
        checks.fault(x, "quarrel 0 1", 0);
        checks.fault(x, "hands 1; quarrel", 9);
        checks.fault(x, "quarrel 0 0", 0);
        checks.fault(x, "quarrel 9 9", 0);
        checks.fault(x, "wood;" + TWO + ";quarrel 0 1", NONE);
        checks.due("six are left", x.count(1), 6);
    }

    private static void treesBehindTheLinesAhead() {
        checks.sentence("I, J TREES that there are behind the LINES ahead");
        Run none = new Run();
        checks.fault(none, "quarrel 0 1", 8);
        checks.fault(none, "part 0 0", 5);
        checks.fault(none, "oak 1 1 1;part 0 0", NONE);
        checks.fault(none, "oak 1 1 1;part 1 0", 15);
        checks.fault(none, "part 0 0;oak 1 1 1", 5);
        checks.fault(none, "oak 1 1 1;quarrel 0 1;oak 1 1 1", 20);
        checks.fault(none, "oak 1 1 1;quarrel 1 0;oak 1 1 1", 18);
        checks.fault(none, TWO + ";quarrel 0 1", NONE);
        checks.fault(none, TWO + ";quarrel 1 2", 30);
        checks.fault(none, TWO + ";quarrel 2 1", 28);
        checks.fault(none, TWO + ";wood;part 0 0", 30);
        Run six = checks.wood(treesOf(6));
        checks.fault(six, "part 5 0;quarrel 5 0;quarrel 0 5", NONE);
        checks.fault(six, "part 6 0", 5);
        checks.fault(six, "quarrel 0 6", 10);
        checks.fault(six, "quarrel 6 0", 8);
        checks.fault(six, "wood;quarrel 0 1", 13);
        checks.fault(six, "wood;oak 1 1 1;part 0 0", NONE);
        checks.fault(six, "wood;oak 1 1 1;part 1 0", 20);
    }

    private static void smallLetters() {
        checks.sentence("small letters a .. z");
        Run x = new Run();
        for (char sign : new char[] {'a', 'b', 'y', 'z'}) checks.fault(x, "wood" + sign, 0);
        for (char sign : new char[] {'`', '{', 'A', 'Z', '@', '[', 225, 250, 128, 255, 0}) {
            checks.fault(x, "wood" + sign, 4);
            checks.fault(x, "" + sign, 0);
        }
        checks.fault(x, "WOOD", 0);
        checks.fault(x, "wooD", 0);
    }

    private static void digits() {
        checks.sentence("a row of digits");
        Run x = new Run();
        for (char sign = '0'; sign <= '9'; sign++) {
            checks.due("hands 1" + sign, checks.wood("hands 1" + sign).count(2), 10 + sign - '0');
            checks.due("hands " + sign, checks.wood("hands " + sign).count(2), sign - '0');
        }
        for (char sign : new char[] {'/', ':', 176, 185, 'O', 'l', '-', '+', '.'}) {
            checks.fault(x, "hands " + sign, 6);
            checks.fault(x, "hands 1" + sign, 7);
        }
    }

    private static void numbersOfOneOrTwoDigits() {
        checks.sentence("numbers of 1 or 2 digits .. (.. of more digits, also)");
        Run x = checks.wood(TWO);
        checks.due("one digit", checks.wood("hands 7").count(2), 7);
        checks.due("two digits", checks.wood("hands 07").count(2), 7);
        checks.fault(x, "hands 007", 6);
        checks.fault(x, "oak 00 00 01", NONE);
        checks.fault(x, "oak 000 0 1", 4);
        checks.fault(x, "oak 0 000 1", 6);
        checks.fault(x, "oak 0 0 001", 8);
        checks.fault(x, "part 00 00", NONE);
        checks.fault(x, "part 000 0", 5);
        checks.fault(x, "part 0 000", 7);
        checks.fault(x, "quarrel 00 01", NONE);
        checks.fault(x, "quarrel 000 1", 8);
        checks.fault(x, "quarrel 0 001", 10);
        // Rows of digits that are 1, as an int or a long wraps round.
        checks.fault(x, "hands 4294967297", 6);
        checks.fault(x, "hands 18446744073709551617", 6);
        checks.fault(x, "part 4294967296 0", 5);
        checks.fault(x, "quarrel 0 4294967297", 10);
        checks.fault(x, "hands " + "0".repeat(193) + "1", 6);
    }

    private static void blanks() {
        checks.sentence("blanks (32) may stand ahead of, between and behind TOKENS");
        Run x = checks.wood(TWO);
        String spread = "  oak  1   2 3  ;  part   0  4 ; quarrel 1  0  ;hands   8   ";
        checks.fault(x, spread, NONE);
        x.writeText(spread);
        checks.due("wood()", x.wood(), 4);
        checks.due("BRANCHES", x.tree(2, 1), 1);
        checks.due("RATE", x.tree(2, 2), 2);
        checks.due("TERM", x.tree(2, 3), 3);
        checks.due("PART", x.tree(0, 4), 4);
        checks.due("HANDS", x.count(2), 8);
        for (char sign : new char[] {31, 33, '\t', '\n', '\r', 160, 0}) {
            checks.fault(x, sign + "wood", 0);
            checks.fault(x, "hands" + sign + "1", 5);
            checks.fault(x, "wood" + sign, 4);
        }
        checks.fault(x, "wo od", 0);
        checks.fault(x, "hands 1 2", 8);
    }

    private static void whereBlanksAreNeeded() {
        checks.sentence("none is needed but between two words, two numbers");
        checks.fault(new Run(), "oak1 2 3;birch4 5 6;twin7 8 9;hollow1 2 3;part0 1;quarrel0 1;hands7;wood", NONE);
        checks.fault(new Run(), "woodwood", 0);
        checks.fault(new Run(), "oak12 3", 7);
        checks.fault(new Run(), "oak123 4 5", 3);
        checks.fault(new Run(), "oak1 2 3birch4 5 6", 8);
        checks.fault(new Run(), "wood1", 4);
    }

    private static void earlierTextsStay() {
        checks.sentence("what earlier texts told stays");
        Run x = checks.wood("oak 1 2 3;birch 4 5 6;part 0 7;part 1 8;quarrel 0 1;hands 9");
        checks.tell(x, "twin 7 8 9;part 0 6;quarrel 2 0", 3);
        int[][] due = {{0, 1, 2, 3, 6}, {1, 4, 5, 6, 8}, {2, 7, 8, 9, 0}};
        for (int tree = 0; tree < 3; tree++) {
            for (int what = 0; what < 5; what++) {
                checks.due("tree(" + tree + ", " + what + ")", x.tree(tree, what), due[tree][what]);
            }
        }
        checks.due("TREES", x.count(0), 3);
        checks.due("QUARRELS", x.count(1), 2);
        checks.due("HANDS", x.count(2), 9);
        x.borrow(0, 1);
        checks.due("an earlier QUARREL", x.tree(1, 7), 1);
        checks.due("a later one", x.tree(2, 7), 1);
    }

    private static void faultAtTheFirstToken() {
        checks.sentence("A FAULT is at the first TOKEN .. that cannot stand there");
        Run x = new Run();
        checks.fault(x, "oak 100 51 0", 4);
        checks.fault(x, "oak 99 51 0", 7);
        checks.fault(x, "oak 99 50 0", 10);
        checks.fault(x, "oak 99 50 1 0", 12);
        checks.fault(x, "wood;;;", 5);
        checks.fault(x, "elm 100 51 0", 0);
        checks.fault(x, "wood#$", 4);
        checks.fault(x, "wood $#", 5);
        checks.fault(x, "hands 1;hands 100;hands 2;hands 300", 14);
        checks.fault(x, "oak 1 1 1;quarrel 0 0;elm", 20);
        checks.fault(x, "oak wood 1 1", 4);
    }

    private static void faultAtTheEnd() {
        checks.sentence("or at the end, if it comes too soon");
        Run x = checks.wood(TWO);
        for (String start : new String[] {"", "oak", "oak 1", "oak 1 1", "birch", "twin 1", "hollow 1 1", "part", "part 0",
            "quarrel", "quarrel 0", "hands", "wood;", "hands 1;oak 1 1"}) {
            checks.fault(x, start, start.length());
            checks.fault(x, start + "   ", start.length() + 3);
        }
    }

    private static void linesInTheirOrder() {
        checks.sentence("LINES are done in their order");
        Run x = checks.wood("oak 1 1 1;part 0 3;hands 2;part 0 4;hands 3");
        checks.due("the last PART", x.tree(0, 4), 4);
        checks.due("the last HANDS", x.count(2), 3);
        checks.tell(x, "part 0 5;hands 4;wood;birch 2 2 2;twin 3 3 3", 5);
        checks.due("behind wood: TREES", x.count(0), 2);
        checks.due("behind wood: TREE 0", x.tree(0, 0), 1);
        checks.due("behind wood: TREE 1", x.tree(1, 0), 2);
        checks.due("behind wood: PART", x.tree(0, 4), 0);
        checks.due("behind wood: HANDS", x.count(2), 5);
        checks.tell(x, "hands 8;wood;hands 6", 3);
        checks.due("told behind wood", x.count(2), 6);
    }

    private static void behindTheLines() {
        checks.sentence("Behind them it is DAY 0, BRANCHES are as told, there are no LOANS, nothing has FAILED, no TREE is"
            + " BURNT or SOLD, nothing is kept");
        Run x = checks.wood("oak 9 9 1;oak 8 9 1;oak 7 9 1;part 2 4;hands 0");
        x.borrow(0, 4);
        x.borrow(1, 1);
        x.days(3);
        x.sell(0, 1);
        x.fire(4);
        x.keep(0);
        x.keep(1);
        checks.due("FAILED ahead of it", x.count(5), 2);
        checks.tell(x, "hands 0", 1);
        checks.due("DAY", x.count(4), 0);
        checks.due("LOANS", x.count(3), 0);
        checks.due("no LOAN 0", x.loan(0, 0), UNKNOWN);
        checks.due("OWED", x.count(6), 0);
        checks.due("FAILED", x.count(5), 0);
        for (int tree = 0; tree < 3; tree++) {
            checks.due("BRANCHES", x.tree(tree, 1), 9 - tree);
            checks.due("neither BURNT nor SOLD", x.tree(tree, 6), 0);
        }
        checks.refused(x, "back(0)", () -> x.back(0), NOT);
        checks.refused(x, "back(1)", () -> x.back(1), NOT);
        checks.due("each LENDS again", x.borrow(0, 9), 0);
        checks.due("the one that was BURNT", x.borrow(2, 7), 1);
    }
}
