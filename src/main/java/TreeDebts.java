/** A wood in which every tree is a creditor. The promises by number stand in ../shared/DOC.md. */
public final class TreeDebts {
    public static final int NONE = -1, UNKNOWN = -2, OUTSIDE = -3, NOT = -4, FULL = -5;

    private static final int MOST_TREES = 6, MOST_QUARRELS = 6, MOST_LOANS = 12;
    private static final int MOST_BYTES = 200, MOST_LINES = 12;
    private static final int MOST_BRANCHES = 99, MOST_RATE = 50, MOST_TERM = 99, MOST_PART = 9, MOST_HANDS = 99;
    private static final int FIRST_HANDS = 5;
    private static final int A_DAYS_WORK = 100, MOST_OWED = 1000000;
    private static final int LAST_DAY = 9999, MOST_DAYS = 99, MOST_GROWTH = 30, MOST_CLEAR = 999;

    private static final int OAK = 0, BIRCH = 1, TWIN = 2, HOLLOW = 3;
    /** What each KIND that a TREE is taken as (0 TREE .. 4 HOLLOW) stands under; TREE is the top. */
    private static final int[] OVER = {0, 0, 1, 1, 0};
    private static final int LEVELS_OF_KINDS = 3;

    private static final int STANDING = 0, BURNT = 1, SOLD = 2;

    private final Text text;
    private final Told told;
    private final State now;
    /** Used again by every call that foretells, so that none makes objects. */
    private final State foretold;
    private final State[] kept;
    private final boolean[] isKept;
    private final HutPlan hutPlan;

    public TreeDebts() {
        text = new Text();
        told = new Told();
        now = new State();
        foretold = new State();
        kept = new State[] {new State(), new State()};
        isKept = new boolean[kept.length];
        hutPlan = new HutPlan();
    }

    // ---- what is told

    public int write(long bytes, int n) {
        if (n < 1 || n > 8) return OUTSIDE;
        if (text.length + n > MOST_BYTES) return FULL;
        for (int i = 0; i < n; i++) text.add((int) (bytes >> 8 * i & 255));
        return text.length;
    }

    public int erase() {
        int had = text.length;
        text.length = 0;
        return had;
    }

    public int fault() {
        return text.read(told);
    }

    public int wood() {
        if (text.read(told) != NONE) return NOT;
        told.copyFrom(text.draft);
        text.length = 0;
        now.begin(told);
        for (int k = 0; k < isKept.length; k++) isKept[k] = false;
        return text.lines;
    }

    public int tree(int tree, int what) {
        if (!told.has(tree)) return UNKNOWN;
        switch (what) {
            case 0: return told.kinds[tree];
            case 1: return now.branches[tree];
            case 2: return told.rates[tree];
            case 3: return told.terms[tree];
            case 4: return told.parts[tree];
            case 5: return now.owedTo(tree);
            case 6: return now.fates[tree];
            case 7: return now.isCross(told, tree) ? 1 : 0;
            default: return OUTSIDE;
        }
    }

    public int loan(int loan, int what) {
        if (loan < 0 || loan >= now.loans) return UNKNOWN;
        switch (what) {
            case 0: return now.lenders[loan];
            case 1: return now.lent[loan];
            case 2: return now.owed[loan];
            case 3: return now.dues[loan];
            case 4: return now.failed[loan];
            default: return OUTSIDE;
        }
    }

    public int as(int tree, int kind) {
        if (!told.has(tree)) return UNKNOWN;
        if (kind < 0 || kind >= OVER.length) return OUTSIDE;
        if (!told.isOfKind(tree, kind)) return NOT;
        return told.grownIn(tree, 1, 1);
    }

    // ---- days

    public int borrow(int tree, int n) {
        if (!told.has(tree)) return UNKNOWN;
        if (n < 1 || n > MOST_BRANCHES) return OUTSIDE;
        if (!now.lends(told, tree) || n > now.branches[tree]) return NOT;
        if (now.loans >= MOST_LOANS) return FULL;
        return now.lend(told, tree, n);
    }

    public int days(int n) {
        if (n < 1 || n > MOST_DAYS) return OUTSIDE;
        if (now.day + n > LAST_DAY) return FULL;
        now.passDays(told, told.hands, n);
        return now.day;
    }

    public int fire(int part) {
        if (part < 0 || part > MOST_PART) return OUTSIDE;
        return now.burn(told, part);
    }

    public int sell(int tree, int to) {
        if (!told.has(tree) || !told.has(to)) return UNKNOWN;
        if (tree == to) return OUTSIDE;
        if (now.fates[tree] != STANDING || now.fates[to] != STANDING) return NOT;
        return now.handOver(tree, to);
    }

    public int keep(int k) {
        if (k < 0 || k >= kept.length) return UNKNOWN;
        kept[k].copyFrom(now);
        isKept[k] = true;
        return now.day;
    }

    public int back(int k) {
        if (k < 0 || k >= kept.length) return UNKNOWN;
        if (!isKept[k]) return NOT;
        now.copyFrom(kept[k]);
        return now.day;
    }

    // ---- foretold

    public int later(int tree, int t) {
        if (!told.has(tree)) return UNKNOWN;
        if (t < 0 || t > MOST_DAYS) return OUTSIDE;
        foretell(t);
        return foretold.owedTo(tree);
    }

    public int all(int t, int what) {
        if (t < 0 || t > MOST_DAYS || what < 0 || what > 1) return OUTSIDE;
        foretell(t);
        return what == 0 ? foretold.owedInAll() : foretold.failures;
    }

    public int clear() {
        foretell(0);
        for (int t = 0; t <= MOST_CLEAR; t++) {
            if (foretold.loans == 0) return t;
            foretold.passDays(told, told.hands, 1);
        }
        return NONE;
    }

    public int hut(int b, int t, int tree) {
        if (tree != NONE && !told.has(tree)) return UNKNOWN;
        if (b < 1 || b > MOST_BRANCHES || t < 0 || t > MOST_GROWTH) return OUTSIDE;
        if (!hutPlan.find(told, now, b, t)) return NONE;
        return tree == NONE ? hutPlan.owedTogether() : hutPlan.from[tree];
    }

    public int enough(int t) {
        if (t < 1 || t > MOST_DAYS) return OUTSIDE;
        if (anyFails(MOST_HANDS, t)) return NONE;
        int low = 0;
        int high = MOST_HANDS;
        // Halving finds the fewest: with more HANDS no LOAN ever has more OWED than with fewer.
        for (int step = 0; step < MOST_HANDS && low < high; step++) {
            int middle = (low + high) / 2;
            if (anyFails(middle, t)) low = middle + 1;
            else high = middle;
        }
        return high;
    }

    public int rid(int p, int part) {
        if (p < 0 || p > 10 || part < 0 || part > 1) return OUTSIDE;
        int term = (part == 0 ? p : 10) / commonWithTen(p);
        int partsToBurn = now.partsWithLoans(told);
        int odds = 1;
        for (int i = 0; i < partsToBurn; i++) odds *= term;
        return odds;
    }

    public int grandson(int t) {
        if (t < 0 || t > MOST_DAYS) return OUTSIDE;
        foretell(t);
        int sum = 0;
        for (int i = 0; i < told.trees; i++) {
            if (foretold.fates[i] == STANDING) sum += foretold.branches[i];
        }
        return sum;
    }

    public int toWhom(int b, int t, int v) {
        if (b < 1 || b > MOST_BRANCHES || t < 0 || t > MOST_GROWTH || v < 0 || v > MOST_OWED) return OUTSIDE;
        int bits = 0;
        for (int i = 0; i < told.trees; i++) {
            if (now.fates[i] == STANDING && told.grownIn(i, b, t) == v) bits |= 1 << i;
        }
        return bits;
    }

    public int count(int what) {
        switch (what) {
            case 0: return told.trees;
            case 1: return told.quarrels;
            case 2: return told.hands;
            case 3: return now.loans;
            case 4: return now.day;
            case 5: return now.failures;
            case 6: return now.owedInAll();
            case 7: return text.length;
            default: return OUTSIDE;
        }
    }

    private void foretell(int t) {
        foretold.copyFrom(now);
        foretold.passDays(told, told.hands, t);
    }

    private boolean anyFails(int hands, int t) {
        foretold.copyFrom(now);
        for (int i = 0; i < t; i++) {
            foretold.passDays(told, hands, 1);
            if (foretold.failures > now.failures) return true;
        }
        return false;
    }

    /** The greatest common divisor of p and 10. */
    private static int commonWithTen(int p) {
        return (p % 2 == 0 ? 2 : 1) * (p % 5 == 0 ? 5 : 1);
    }

    /** What texts have told: it stays until another text is done. */
    private static final class Told {
        int trees;
        final int[] kinds = new int[MOST_TREES];
        final int[] branches = new int[MOST_TREES];
        final int[] rates = new int[MOST_TREES];
        final int[] terms = new int[MOST_TREES];
        final int[] parts = new int[MOST_TREES];
        int quarrels;
        final int[] ones = new int[MOST_QUARRELS];
        final int[] others = new int[MOST_QUARRELS];
        int hands = FIRST_HANDS;

        boolean has(int tree) {
            return tree >= 0 && tree < trees;
        }

        void forget() {
            trees = 0;
            quarrels = 0;
            hands = FIRST_HANDS;
        }

        void copyFrom(Told from) {
            trees = from.trees;
            System.arraycopy(from.kinds, 0, kinds, 0, MOST_TREES);
            System.arraycopy(from.branches, 0, branches, 0, MOST_TREES);
            System.arraycopy(from.rates, 0, rates, 0, MOST_TREES);
            System.arraycopy(from.terms, 0, terms, 0, MOST_TREES);
            System.arraycopy(from.parts, 0, parts, 0, MOST_TREES);
            quarrels = from.quarrels;
            System.arraycopy(from.ones, 0, ones, 0, MOST_QUARRELS);
            System.arraycopy(from.others, 0, others, 0, MOST_QUARRELS);
            hands = from.hands;
        }

        void addTree(int kind, int itsBranches, int rate, int term) {
            if (trees >= MOST_TREES) return;
            kinds[trees] = kind;
            branches[trees] = itsBranches;
            rates[trees] = rate;
            terms[trees] = term;
            parts[trees] = 0;
            trees++;
        }

        void addQuarrel(int one, int other) {
            if (quarrels >= MOST_QUARRELS) return;
            ones[quarrels] = one;
            others[quarrels] = other;
            quarrels++;
        }

        /** Whether a TREE is of a KIND as they are over one another (0 TREE .. 4 HOLLOW). */
        boolean isOfKind(int tree, int kind) {
            int itself = kinds[tree] + 1;
            for (int level = 0; level < LEVELS_OF_KINDS; level++) {
                if (itself == kind) return true;
                itself = OVER[itself];
            }
            return false;
        }

        int dueOf(int tree, int day) {
            return kinds[tree] == BIRCH ? day + 1 : day + terms[tree];
        }

        int grownOnce(int tree, int owed, int lent) {
            int rate = rates[tree];
            int growth;
            switch (kinds[tree]) {
                case TWIN: growth = owed * (rate / 2) / 100; break;
                case HOLLOW: growth = rate * lent; break;
                default: growth = owed * rate / 100; break;
            }
            return Math.min(owed + growth, MOST_OWED);
        }

        /** OWED for BRANCHES that a TREE lends, when it has GROWN on so many DAYS. */
        int grownIn(int tree, int lent, int days) {
            int owed = A_DAYS_WORK * lent;
            for (int i = 0; i < days; i++) owed = grownOnce(tree, owed, lent);
            return owed;
        }
    }

    /** What DAYS change: all that can be kept. LOANS stand in the order in which they came. */
    private static final class State {
        int day;
        final int[] branches = new int[MOST_TREES];
        final int[] fates = new int[MOST_TREES];
        int loans;
        final int[] lenders = new int[MOST_LOANS];
        final int[] lent = new int[MOST_LOANS];
        final int[] owed = new int[MOST_LOANS];
        final int[] dues = new int[MOST_LOANS];
        /** 1 if the LOAN FAILED, else 0. */
        final int[] failed = new int[MOST_LOANS];
        /** How many FAILED since the last text, those that are gone too. */
        int failures;

        void begin(Told told) {
            day = 0;
            loans = 0;
            failures = 0;
            for (int i = 0; i < MOST_TREES; i++) {
                branches[i] = told.branches[i];
                fates[i] = STANDING;
            }
        }

        void copyFrom(State from) {
            day = from.day;
            System.arraycopy(from.branches, 0, branches, 0, MOST_TREES);
            System.arraycopy(from.fates, 0, fates, 0, MOST_TREES);
            loans = from.loans;
            System.arraycopy(from.lenders, 0, lenders, 0, MOST_LOANS);
            System.arraycopy(from.lent, 0, lent, 0, MOST_LOANS);
            System.arraycopy(from.owed, 0, owed, 0, MOST_LOANS);
            System.arraycopy(from.dues, 0, dues, 0, MOST_LOANS);
            System.arraycopy(from.failed, 0, failed, 0, MOST_LOANS);
            failures = from.failures;
        }

        int owedTo(int tree) {
            int sum = 0;
            for (int i = 0; i < loans; i++) {
                if (lenders[i] == tree) sum += owed[i];
            }
            return sum;
        }

        int owedInAll() {
            int sum = 0;
            for (int i = 0; i < loans; i++) sum += owed[i];
            return sum;
        }

        boolean isCross(Told told, int tree) {
            int toItself = owedTo(tree);
            for (int q = 0; q < told.quarrels; q++) {
                if (told.ones[q] == tree && owedTo(told.others[q]) > toItself) return true;
                if (told.others[q] == tree && owedTo(told.ones[q]) > toItself) return true;
            }
            return false;
        }

        boolean lends(Told told, int tree) {
            return fates[tree] == STANDING && !isCross(told, tree);
        }

        int lend(Told told, int tree, int n) {
            int loan = loans;
            lenders[loan] = tree;
            lent[loan] = n;
            owed[loan] = A_DAYS_WORK * n;
            dues[loan] = told.dueOf(tree, day);
            failed[loan] = 0;
            branches[tree] -= n;
            loans++;
            return loan;
        }

        void addBranches(int tree, int n) {
            branches[tree] = Math.min(branches[tree] + n, MOST_BRANCHES);
        }

        void passDays(Told told, int hands, int n) {
            for (int i = 0; i < n; i++) {
                growLoans(told);
                workOff(hands * A_DAYS_WORK);
                failDueLoans();
                day++;
            }
        }

        void growLoans(Told told) {
            for (int i = 0; i < loans; i++) owed[i] = told.grownOnce(lenders[i], owed[i], lent[i]);
        }

        void workOff(int work) {
            int left = work;
            // Each round but the last one pays a LOAN off, so there are no more rounds than LOANS.
            for (int round = 0; round < MOST_LOANS && left > 0 && loans > 0; round++) {
                int loan = firstDue();
                int worked = Math.min(left, owed[loan]);
                left -= worked;
                owed[loan] -= worked;
                if (owed[loan] == 0) {
                    addBranches(lenders[loan], lent[loan]);
                    removeLoan(loan);
                }
            }
        }

        int firstDue() {
            int first = 0;
            for (int i = 1; i < loans; i++) {
                if (dues[i] < dues[first]) first = i;
            }
            return first;
        }

        void failDueLoans() {
            for (int i = 0; i < loans; i++) {
                if (dues[i] <= day && failed[i] == 0) {
                    failed[i] = 1;
                    failures++;
                }
            }
        }

        void removeLoan(int loan) {
            for (int i = loan; i < loans - 1; i++) {
                lenders[i] = lenders[i + 1];
                lent[i] = lent[i + 1];
                owed[i] = owed[i + 1];
                dues[i] = dues[i + 1];
                failed[i] = failed[i + 1];
            }
            loans--;
        }

        int burn(Told told, int part) {
            int burnt = 0;
            for (int i = 0; i < told.trees; i++) {
                if (told.parts[i] == part && fates[i] == STANDING) {
                    fates[i] = BURNT;
                    removeLoansOf(i);
                    burnt++;
                }
            }
            return burnt;
        }

        void removeLoansOf(int tree) {
            for (int i = loans - 1; i >= 0; i--) {
                if (lenders[i] == tree) removeLoan(i);
            }
        }

        /** A TREE is SOLD: its LOANS and its BRANCHES are the other's, so none are left to it. */
        int handOver(int tree, int to) {
            int moved = 0;
            for (int i = 0; i < loans; i++) {
                if (lenders[i] == tree) {
                    lenders[i] = to;
                    moved++;
                }
            }
            addBranches(to, branches[tree]);
            branches[tree] = 0;
            fates[tree] = SOLD;
            return moved;
        }

        int partsWithLoans(Told told) {
            int bits = 0;
            for (int i = 0; i < loans; i++) bits |= 1 << told.parts[lenders[i]];
            return Integer.bitCount(bits);
        }
    }

    /** THE TEXT, and its reading TOKEN by TOKEN into a draft of what would be told behind it. */
    private static final class Text {
        private static final int END = 0, WORD = 1, NUMBER = 2, OTHER = 3;

        final int[] bytes = new int[MOST_BYTES];
        int length;
        final Told draft = new Told();
        int lines;

        /** The TOKEN that is looked at: its first byte, the byte behind it, what it is. */
        int start;
        int end;
        int token;
        int value;

        void add(int b) {
            if (length >= MOST_BYTES) return;
            bytes[length] = b;
            length++;
        }

        /** Reads THE TEXT on top of what is told already: the place of its FAULT, or NONE. */
        int read(Told told) {
            draft.copyFrom(told);
            lines = 0;
            end = 0;
            nextToken();
            for (int i = 0; i < MOST_LINES; i++) {
                if (!readLine()) return start;
                lines++;
                if (token == END) return NONE;
                if (!isAtSemicolon() || lines == MOST_LINES) return start;
                nextToken();
            }
            return start;
        }

        boolean isAtSemicolon() {
            return token == OTHER && bytes[start] == ';';
        }

        /** Reads one LINE; if it cannot stand, the TOKEN that is looked at then is at FAULT. */
        boolean readLine() {
            if (token != WORD) return false;
            if (isWord("wood")) return readWood();
            if (isWord("oak")) return readTree(OAK);
            if (isWord("birch")) return readTree(BIRCH);
            if (isWord("twin")) return readTree(TWIN);
            if (isWord("hollow")) return readTree(HOLLOW);
            if (isWord("part")) return readPart();
            if (isWord("quarrel")) return readQuarrel();
            if (isWord("hands")) return readHands();
            return false;
        }

        boolean readWood() {
            draft.forget();
            nextToken();
            return true;
        }

        boolean readTree(int kind) {
            if (draft.trees >= MOST_TREES) return false;
            nextToken();
            int branches = readNumber(0, MOST_BRANCHES);
            if (branches == NONE) return false;
            int rate = readNumber(0, MOST_RATE);
            if (rate == NONE) return false;
            int term = readNumber(1, MOST_TERM);
            if (term == NONE) return false;
            draft.addTree(kind, branches, rate, term);
            return true;
        }

        boolean readPart() {
            nextToken();
            int tree = readNumber(0, draft.trees - 1);
            if (tree == NONE) return false;
            int part = readNumber(0, MOST_PART);
            if (part == NONE) return false;
            draft.parts[tree] = part;
            return true;
        }

        boolean readQuarrel() {
            if (draft.quarrels >= MOST_QUARRELS) return false;
            nextToken();
            int one = readNumber(0, draft.trees - 1);
            if (one == NONE) return false;
            if (token == NUMBER && value == one) return false;
            int other = readNumber(0, draft.trees - 1);
            if (other == NONE) return false;
            draft.addQuarrel(one, other);
            return true;
        }

        boolean readHands() {
            nextToken();
            int hands = readNumber(0, MOST_HANDS);
            if (hands == NONE) return false;
            draft.hands = hands;
            return true;
        }

        /** The number that is looked at, if it can stand, and on to the next TOKEN; else NONE. */
        int readNumber(int least, int most) {
            if (token != NUMBER || end - start > 2 || value < least || value > most) return NONE;
            int number = value;
            nextToken();
            return number;
        }

        void nextToken() {
            start = end;
            while (start < length && bytes[start] == ' ') start++;
            end = start;
            if (start >= length) {
                token = END;
            } else if (isLetter(bytes[start])) {
                token = WORD;
                while (end < length && isLetter(bytes[end])) end++;
            } else if (isDigit(bytes[start])) {
                token = NUMBER;
                readDigits();
            } else {
                token = OTHER;
                end++;
            }
        }

        /** A row of many digits may wrap round in value: readNumber refuses it by its length. */
        void readDigits() {
            value = 0;
            while (end < length && isDigit(bytes[end])) {
                value = 10 * value + bytes[end] - '0';
                end++;
            }
        }

        boolean isWord(String word) {
            if (end - start != word.length()) return false;
            for (int i = 0; i < word.length(); i++) {
                if (bytes[start + i] != word.charAt(i)) return false;
            }
            return true;
        }

        static boolean isLetter(int b) {
            return b >= 'a' && b <= 'z';
        }

        static boolean isDigit(int b) {
            return b >= '0' && b <= '9';
        }
    }

    /** From whom a HUT's BRANCHES come, found from the last TREE back to the first. */
    private static final class HutPlan {
        /** Above every sum that TREES can come to. */
        private static final int NO_ROW = 100 * MOST_OWED;

        /** least[i][b]: least OWED for b BRANCHES from TREES i and on; choice[i][b]: those from i then. */
        final int[][] least = new int[MOST_TREES + 1][MOST_BRANCHES + 1];
        final int[][] choice = new int[MOST_TREES][MOST_BRANCHES + 1];
        final int[] costs = new int[MOST_BRANCHES + 1];
        final int[] from = new int[MOST_TREES];
        int hutBranches;

        /** Whether there is a row; then it stands in from, TREE by TREE. */
        boolean find(Told told, State state, int b, int t) {
            hutBranches = b;
            least[told.trees][0] = 0;
            for (int n = 1; n <= b; n++) least[told.trees][n] = NO_ROW;
            for (int i = told.trees - 1; i >= 0; i--) {
                int most = state.lends(told, i) ? Math.min(state.branches[i], b) : 0;
                costs[0] = 0;
                for (int n = 1; n <= most; n++) costs[n] = told.grownIn(i, n, t);
                for (int n = 0; n <= b; n++) chooseFrom(i, n, Math.min(most, n));
            }
            if (owedTogether() >= NO_ROW) return false;
            followChoices(told.trees);
            return true;
        }

        int owedTogether() {
            return least[0][hutBranches];
        }

        /** Fewer BRANCHES are tried first and kept when sums are alike: less first, by TREES. */
        void chooseFrom(int tree, int n, int most) {
            int best = NO_ROW;
            int bestTaken = 0;
            for (int taken = 0; taken <= most; taken++) {
                int sum = costs[taken] + least[tree + 1][n - taken];
                if (sum < best) {
                    best = sum;
                    bestTaken = taken;
                }
            }
            least[tree][n] = best;
            choice[tree][n] = bestTaken;
        }

        void followChoices(int trees) {
            int left = hutBranches;
            for (int i = 0; i < trees; i++) {
                from[i] = choice[i][left];
                left -= from[i];
            }
        }
    }
}
