import java.util.ArrayList;
import java.util.List;
import java.util.regex.Matcher;
import java.util.regex.Pattern;

/** The document once more, in its slowest and plainest form, to hold the class against. */
final class Model {
    static final int NONE = -1, UNKNOWN = -2, OUTSIDE = -3, NOT = -4, FULL = -5;
    private static final List<String> KINDS = List.of("oak", "birch", "twin", "hollow");
    private static final Pattern TOKEN = Pattern.compile("[a-z]+|[0-9]+|[^ ]", Pattern.DOTALL);

    static final class Tree {
        int kind, told, rate, term, part, has;
        boolean burnt, sold;

        boolean stands() {
            return !burnt && !sold;
        }

        Tree copy() {
            Tree c = new Tree();
            c.kind = kind; c.told = told; c.rate = rate; c.term = term; c.part = part;
            c.has = has; c.burnt = burnt; c.sold = sold;
            return c;
        }

        long grow(long owed, long branches) {
            long more = kind == 3 ? rate * branches : kind == 2 ? owed * (rate / 2) / 100 : owed * rate / 100;
            return Math.min(1000000, owed + more);
        }

        long grown(int b, int t) {
            return t == 0 ? 100L * b : grow(grown(b, t - 1), b);
        }
    }

    static final class Loan {
        int tree, branches, due;
        long owed;
        boolean failed;

        Loan copy() {
            Loan c = new Loan();
            c.tree = tree; c.branches = branches; c.due = due; c.owed = owed; c.failed = failed;
            return c;
        }
    }

    String text = "";
    List<Tree> trees = new ArrayList<>();
    List<int[]> quarrels = new ArrayList<>();
    int hands = 5;
    List<Loan> loans = new ArrayList<>();
    int day = 0;
    int failures = 0;
    Model[] kept = new Model[2];
    private int lines;

    Model copy() {
        Model c = new Model();
        c.text = text;
        for (Tree t : trees) c.trees.add(t.copy());
        c.quarrels.addAll(quarrels);
        c.hands = hands;
        for (Loan l : loans) c.loans.add(l.copy());
        c.day = day;
        c.failures = failures;
        return c;
    }

    private boolean known(int tree) {
        return 0 <= tree && tree < trees.size();
    }

    private static boolean in(int n, int least, int most) {
        return least <= n && n <= most;
    }

    int write(long bytes, int n) {
        if (!in(n, 1, 8)) return OUTSIDE;
        if (text.length() + n > 200) return FULL;
        for (int i = 0; i < n; i++) text += (char) ((bytes >>> 8 * i) & 255);
        return text.length();
    }

    int erase() {
        int had = text.length();
        text = "";
        return had;
    }

    /** Does the LINES on this model itself: to be called on a copy. */
    private int doLines() {
        List<String> tokens = new ArrayList<>();
        List<Integer> places = new ArrayList<>();
        Matcher m = TOKEN.matcher(text);
        while (m.find()) {
            tokens.add(m.group());
            places.add(m.start());
        }
        tokens.add("");
        places.add(text.length());
        int at = 0;
        lines = 0;
        while (true) {
            String word = tokens.get(at);
            int[] numbers = new int[3];
            int wanted = KINDS.contains(word) ? 3 : word.equals("part") || word.equals("quarrel") ? 2
                : word.equals("hands") ? 1 : word.equals("wood") ? 0 : -1;
            if (wanted < 0) return places.get(at);
            if (wanted == 3 && trees.size() == 6) return places.get(at);
            if (word.equals("quarrel") && quarrels.size() == 6) return places.get(at);
            at++;
            for (int i = 0; i < wanted; i++, at++) {
                if (!tokens.get(at).matches("[0-9]{1,2}")) return places.get(at);
                numbers[i] = Integer.parseInt(tokens.get(at));
                if (!canStand(word, i, numbers)) return places.get(at);
            }
            doLine(word, numbers);
            lines++;
            if (tokens.get(at).isEmpty()) return NONE;
            if (!tokens.get(at).equals(";") || lines == 12) return places.get(at);
            at++;
        }
    }

    private boolean canStand(String word, int i, int[] numbers) {
        int n = numbers[i];
        if (word.equals("hands")) return true;
        if (word.equals("part")) return i == 0 ? known(n) : n <= 9;
        if (word.equals("quarrel")) return known(n) && (i == 0 || n != numbers[0]);
        return i == 0 || (i == 1 ? n <= 50 : n >= 1);
    }

    private void doLine(String word, int[] numbers) {
        if (word.equals("wood")) {
            trees.clear();
            quarrels.clear();
            hands = 5;
        } else if (word.equals("hands")) {
            hands = numbers[0];
        } else if (word.equals("part")) {
            trees.get(numbers[0]).part = numbers[1];
        } else if (word.equals("quarrel")) {
            quarrels.add(new int[] {numbers[0], numbers[1]});
        } else {
            Tree t = new Tree();
            t.kind = KINDS.indexOf(word);
            t.told = numbers[0];
            t.rate = numbers[1];
            t.term = numbers[2];
            trees.add(t);
        }
    }

    int fault() {
        return copy().doLines();
    }

    int wood() {
        Model read = copy();
        if (read.doLines() != NONE) return NOT;
        trees = read.trees;
        quarrels = read.quarrels;
        hands = read.hands;
        text = "";
        for (Tree t : trees) {
            t.has = t.told;
            t.burnt = false;
            t.sold = false;
        }
        loans.clear();
        day = 0;
        failures = 0;
        kept = new Model[2];
        return read.lines;
    }

    private long owedTo(int tree) {
        return loans.stream().filter(l -> l.tree == tree).mapToLong(l -> l.owed).sum();
    }

    private boolean cross(int tree) {
        for (int[] q : quarrels) {
            for (int side = 0; side < 2; side++) {
                if (q[side] == tree && owedTo(q[1 - side]) > owedTo(tree)) return true;
            }
        }
        return false;
    }

    int tree(int tree, int what) {
        if (!known(tree)) return UNKNOWN;
        Tree t = trees.get(tree);
        int[] told = {t.kind, t.has, t.rate, t.term, t.part, (int) owedTo(tree), t.burnt ? 1 : t.sold ? 2 : 0,
            cross(tree) ? 1 : 0};
        return in(what, 0, 7) ? told[what] : OUTSIDE;
    }

    int loan(int loan, int what) {
        if (!in(loan, 0, loans.size() - 1)) return UNKNOWN;
        Loan l = loans.get(loan);
        int[] told = {l.tree, l.branches, (int) l.owed, l.due, l.failed ? 1 : 0};
        return in(what, 0, 4) ? told[what] : OUTSIDE;
    }

    int as(int tree, int kind) {
        if (!known(tree)) return UNKNOWN;
        if (!in(kind, 0, 4)) return OUTSIDE;
        List<List<Integer>> takenAs = List.of(List.of(0, 1), List.of(0, 1, 2), List.of(0, 1, 3), List.of(0, 4));
        if (!takenAs.get(trees.get(tree).kind).contains(kind)) return NOT;
        return (int) trees.get(tree).grow(100, 1);
    }

    int borrow(int tree, int n) {
        if (!known(tree)) return UNKNOWN;
        if (!in(n, 1, 99)) return OUTSIDE;
        Tree t = trees.get(tree);
        if (!t.stands() || cross(tree) || t.has < n) return NOT;
        if (loans.size() == 12) return FULL;
        Loan l = new Loan();
        l.tree = tree;
        l.branches = n;
        l.owed = 100L * n;
        l.due = day + (t.kind == 1 ? 1 : t.term);
        t.has -= n;
        loans.add(l);
        return loans.size() - 1;
    }

    private void oneDay() {
        for (Loan l : loans) l.owed = trees.get(l.tree).grow(l.owed, l.branches);
        List<Loan> asDue = new ArrayList<>(loans);
        asDue.sort((a, b) -> a.due - b.due);
        long work = 100L * hands;
        for (Loan l : asDue) {
            long worked = Math.min(work, l.owed);
            work -= worked;
            l.owed -= worked;
            if (l.owed == 0) {
                loans.remove(l);
                Tree t = trees.get(l.tree);
                t.has = Math.min(99, t.has + l.branches);
            }
        }
        for (Loan l : loans) {
            if (l.due <= day && !l.failed) {
                l.failed = true;
                failures++;
            }
        }
        day++;
    }

    private Model in(int t) {
        Model c = copy();
        for (int i = 0; i < t; i++) c.oneDay();
        return c;
    }

    int days(int n) {
        if (!in(n, 1, 99)) return OUTSIDE;
        if (day + n > 9999) return FULL;
        for (int i = 0; i < n; i++) oneDay();
        return day;
    }

    int fire(int part) {
        if (!in(part, 0, 9)) return OUTSIDE;
        int burnt = 0;
        for (Tree t : trees) {
            if (t.part == part && t.stands()) {
                t.burnt = true;
                burnt++;
            }
        }
        loans.removeIf(l -> trees.get(l.tree).burnt);
        return burnt;
    }

    int sell(int tree, int to) {
        if (!known(tree) || !known(to)) return UNKNOWN;
        if (tree == to) return OUTSIDE;
        Tree from = trees.get(tree);
        Tree by = trees.get(to);
        if (!from.stands() || !by.stands()) return NOT;
        int moved = 0;
        for (Loan l : loans) {
            if (l.tree == tree) {
                l.tree = to;
                moved++;
            }
        }
        by.has = Math.min(99, by.has + from.has);
        from.has = 0;
        from.sold = true;
        return moved;
    }

    int keep(int k) {
        if (!in(k, 0, 1)) return UNKNOWN;
        kept[k] = copy();
        return day;
    }

    int back(int k) {
        if (!in(k, 0, 1)) return UNKNOWN;
        if (kept[k] == null) return NOT;
        Model as = kept[k].copy();
        trees = as.trees;
        loans = as.loans;
        day = as.day;
        failures = as.failures;
        return day;
    }

    int later(int tree, int t) {
        if (!known(tree)) return UNKNOWN;
        if (!in(t, 0, 99)) return OUTSIDE;
        return (int) in(t).owedTo(tree);
    }

    int all(int t, int what) {
        if (!in(t, 0, 99) || !in(what, 0, 1)) return OUTSIDE;
        return what == 0 ? in(t).count(6) : in(t).failures;
    }

    int clear() {
        Model c = copy();
        for (int t = 0; t <= 999; t++) {
            if (c.loans.isEmpty()) return t;
            c.oneDay();
        }
        return NONE;
    }

    private long bestSum;
    private int[] bestRow;

    /** Every row there is, in the order in which the first of like ones is asked for. */
    private void rows(int tree, int left, int t, long sum, int[] row) {
        if (tree == trees.size()) {
            if (left == 0 && (bestRow == null || sum < bestSum)) {
                bestSum = sum;
                bestRow = row.clone();
            }
            return;
        }
        Tree lender = trees.get(tree);
        int most = lender.stands() && !cross(tree) ? Math.min(left, lender.has) : 0;
        for (int n = 0; n <= most; n++) {
            row[tree] = n;
            rows(tree + 1, left - n, t, sum + (n == 0 ? 0 : lender.grown(n, t)), row);
        }
        row[tree] = 0;
    }

    int hut(int b, int t, int tree) {
        if (tree != NONE && !known(tree)) return UNKNOWN;
        if (!in(b, 1, 99) || !in(t, 0, 30)) return OUTSIDE;
        bestRow = null;
        rows(0, b, t, 0, new int[trees.size()]);
        if (bestRow == null) return NONE;
        return tree == NONE ? (int) bestSum : bestRow[tree];
    }

    int enough(int t) {
        if (!in(t, 1, 99)) return OUTSIDE;
        for (int h = 0; h <= 99; h++) {
            Model c = copy();
            c.hands = h;
            if (c.in(t).failures == failures) return h;
        }
        return NONE;
    }

    /** Every one of the 1024 ways in which PARTS burn or do not, each by its weight. */
    int rid(int p, int part) {
        if (!in(p, 0, 10) || !in(part, 0, 1)) return OUTSIDE;
        long above = 0;
        long below = 1;
        for (int i = 0; i < 10; i++) below *= 10;
        for (int burning = 0; burning < 1024; burning++) {
            int set = burning;
            if (!loans.stream().allMatch(l -> (set >> trees.get(l.tree).part & 1) == 1)) continue;
            long weight = 1;
            for (int i = 0; i < 10; i++) weight *= (set >> i & 1) == 1 ? p : 10 - p;
            above += weight;
        }
        long a = above;
        long b = below;
        while (b != 0) {
            long rest = a % b;
            a = b;
            b = rest;
        }
        return (int) ((part == 0 ? above : below) / a);
    }

    int grandson(int t) {
        if (!in(t, 0, 99)) return OUTSIDE;
        return in(t).trees.stream().filter(Tree::stands).mapToInt(x -> x.has).sum();
    }

    int toWhom(int b, int t, int v) {
        if (!in(b, 1, 99) || !in(t, 0, 30) || !in(v, 0, 1000000)) return OUTSIDE;
        int bits = 0;
        for (int i = 0; i < trees.size(); i++) {
            if (trees.get(i).stands() && trees.get(i).grown(b, t) == v) bits += 1 << i;
        }
        return bits;
    }

    int count(int what) {
        int[] told = {trees.size(), quarrels.size(), hands, loans.size(), day, failures,
            (int) loans.stream().mapToLong(l -> l.owed).sum(), text.length()};
        return in(what, 0, 7) ? told[what] : OUTSIDE;
    }
}
