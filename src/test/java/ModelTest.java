import java.nio.charset.StandardCharsets;
import java.util.Random;

/** Long made-up runs, the same each time, on the class and on the model: their answers must be alike. */
public final class ModelTest {
    private static final String[] WORDS = {"wood", "oak", "birch", "twin", "hollow", "part", "quarrel", "hands"};
    private final Random chance;
    private final int run;
    private final TreeDebts x = new TreeDebts();
    private final Model model = new Model();

    private ModelTest(int run) {
        this.run = run;
        chance = new Random(run);
    }

    private static int wrong = 0;
    private static int done = 0;

    /** Calls of this run: each answer that is looked at is one. */
    private int calls = 0;

    public static void main(String[] args) {
        for (int run = 0; run < 12000 && wrong < 20; run++) new ModelTest(run).go();
        System.out.println(done + " answers looked at, " + wrong + " not as due");
        if (wrong != 0) System.exit(1);
    }

    private void due(String call, int got, int want) {
        done++;
        calls++;
        if (calls > Run.MOST_CALLS) throw new IllegalStateException("run " + run + " makes a 513th call");
        if (got == want) return;
        wrong++;
        System.out.println("run " + run + ": " + call + " answered " + got + ", the model " + want);
    }

    private int to(int most) {
        return chance.nextInt(most + 1);
    }

    /** A number of the bounds, now and then one of their edges or one beyond. */
    private int around(int least, int most) {
        int how = chance.nextInt(14);
        if (how == 0) return least - 1;
        if (how == 1) return most + 1;
        if (how == 2) return most;
        if (how == 3) return least;
        if (how == 4 && chance.nextInt(6) == 0) return chance.nextInt();
        return least + to(most - least);
    }

    private int aTree() {
        return model.trees.isEmpty() ? around(0, 1) : around(0, model.trees.size() - 1);
    }

    private void go() {
        tellWood(true);
        // No step, with the look behind it, takes as many as 210 calls.
        while (calls <= Run.MOST_CALLS - 210) {
            int kind = chance.nextInt(100);
            if (kind < 4) tellWood(false);
            else if (kind < 7) scribble();
            else if (kind < 30) borrow();
            else if (kind < 60) days();
            else foretell();
            if (chance.nextInt(4) == 0) lookAtAll();
            else lookAround();
        }
    }

    private String number(int least, int most) {
        int n = chance.nextInt(60) == 0 ? around(least, most) : least + to(most - least);
        String digits = String.valueOf(Math.abs(n));
        return digits.length() == 1 && chance.nextInt(6) == 0 ? "0" + digits : digits;
    }

    private String line(int trees) {
        int w = chance.nextInt(12);
        if (w > 7 || trees == 0) w = 1 + chance.nextInt(4);
        String word = WORDS[w];
        if (w == 0) return chance.nextInt(4) == 0 ? word : "hands " + number(0, 20);
        if (w < 5) {
            return word + " " + number(0, 99) + " " + number(0, 50) + " "
                + (chance.nextBoolean() ? number(1, 9) : number(1, 99));
        }
        if (w == 5) return word + " " + number(0, trees - 1) + " " + number(0, 9);
        if (w == 6) return word + number(0, trees - 1) + " " + number(0, trees - 1);
        return word + " " + (chance.nextBoolean() ? number(0, 9) : number(0, 99));
    }

    private void tellWood(boolean first) {
        StringBuilder text = new StringBuilder(chance.nextInt(3) == 0 ? "wood;" : "");
        int lines = 1 + chance.nextInt(first ? 11 : 4);
        int trees = model.trees.size();
        for (int i = 0; i < lines; i++) {
            if (i > 0) text.append(chance.nextBoolean() ? ";" : " ; ");
            String line = line(Math.min(trees, 6));
            if (line.matches("(oak|birch|twin|hollow).*")) trees++;
            text.append(line);
        }
        due("erase()", x.erase(), model.erase());
        writeBoth(text.toString());
        due("fault() of '" + text + "'", x.fault(), model.fault());
        due("wood() of '" + text + "'", x.wood(), model.wood());
    }

    /** A text with one byte put in, taken out or changed: where it has its FAULT then. */
    private void scribble() {
        StringBuilder text = new StringBuilder(line(2) + ";" + line(2) + ";" + line(2));
        int at = chance.nextInt(text.length());
        String signs = "; 0123456789abcdhkloprstuwyzA#\0\u00ff`{/:";
        char sign = signs.charAt(chance.nextInt(signs.length()));
        int how = chance.nextInt(3);
        if (how == 0) text.setCharAt(at, sign);
        else if (how == 1) text.insert(at, sign);
        else text.deleteCharAt(at);
        if (chance.nextBoolean()) due("erase()", x.erase(), model.erase());
        writeBoth(text.toString());
        due("fault() of '" + model.text + "'", x.fault(), model.fault());
        if (chance.nextInt(4) == 0) due("wood()", x.wood(), model.wood());
    }

    private void writeBoth(String text) {
        byte[] bytes = text.getBytes(StandardCharsets.ISO_8859_1);
        for (int at = 0; at < bytes.length; ) {
            int n = Math.min(bytes.length - at, 1 + chance.nextInt(8));
            long row = chance.nextLong();
            for (int i = 0; i < n; i++) row = row & ~(255L << 8 * i) | (bytes[at + i] & 255L) << 8 * i;
            due("write", x.write(row, n), model.write(row, n));
            at += n;
        }
    }

    private void borrow() {
        int tree = aTree();
        int n = chance.nextInt(4) == 0 ? around(1, 99) : around(1, 6);
        due("borrow(" + tree + ", " + n + ")", x.borrow(tree, n), model.borrow(tree, n));
    }

    private void days() {
        int how = chance.nextInt(20);
        int k = around(0, 1);
        if (how < 11) {
            int n = chance.nextInt(3) == 0 ? around(1, 99) : 1 + to(3);
            due("days(" + n + ")", x.days(n), model.days(n));
        } else if (how < 13) {
            int part = around(0, 9);
            due("fire(" + part + ")", x.fire(part), model.fire(part));
        } else if (how < 16) {
            int tree = aTree();
            int to = aTree();
            due("sell(" + tree + ", " + to + ")", x.sell(tree, to), model.sell(tree, to));
        } else if (how < 18) {
            due("keep(" + k + ")", x.keep(k), model.keep(k));
        } else {
            due("back(" + k + ")", x.back(k), model.back(k));
        }
    }

    private void foretell() {
        int t = around(0, 99);
        int tree = aTree();
        int what = around(0, 1);
        switch (chance.nextInt(8)) {
            case 0: due("later(" + tree + ", " + t + ")", x.later(tree, t), model.later(tree, t)); break;
            case 1: due("all(" + t + ", " + what + ")", x.all(t, what), model.all(t, what)); break;
            case 2: due("clear()", x.clear(), model.clear()); break;
            case 3: hut(); break;
            case 4: due("enough(" + t + ")", x.enough(t), model.enough(t)); break;
            case 5: int p = around(0, 10);
                due("rid(" + p + ", " + what + ")", x.rid(p, what), model.rid(p, what)); break;
            case 6: due("grandson(" + t + ")", x.grandson(t), model.grandson(t)); break;
            default: toWhom(); break;
        }
    }

    private void hut() {
        int t = around(0, 30);
        // The model looks at every row there is: many BRANCHES only where TREES are few.
        int b = model.trees.size() <= 3 ? around(1, 99) : around(1, 11);
        if (b > 99 || b < 0) t = 0;
        for (int tree = -2; tree <= model.trees.size(); tree++) {
            due("hut(" + b + ", " + t + ", " + tree + ")", x.hut(b, t, tree), model.hut(b, t, tree));
        }
    }

    private void toWhom() {
        int b = around(1, 99);
        int t = around(0, 30);
        int tree = aTree();
        boolean fits = tree >= 0 && tree < model.trees.size() && b > 0 && b < 100 && t >= 0 && t < 31;
        int v = fits && chance.nextInt(5) > 0 ? (int) model.trees.get(tree).grown(b, t) : around(0, 1000000);
        due("toWhom(" + b + ", " + t + ", " + v + ")", x.toWhom(b, t, v), model.toWhom(b, t, v));
    }

    private void lookAround() {
        int what = around(0, 7);
        due("count(" + what + ")", x.count(what), model.count(what));
        int tree = aTree();
        due("tree(" + tree + ", " + what + ")", x.tree(tree, what), model.tree(tree, what));
        int kind = around(0, 4);
        due("as(" + tree + ", " + kind + ")", x.as(tree, kind), model.as(tree, kind));
        int loan = around(0, Math.max(0, model.loans.size() - 1));
        due("loan(" + loan + ", " + kind + ")", x.loan(loan, kind), model.loan(loan, kind));
    }

    private void lookAtAll() {
        for (int what = -1; what <= 8; what++) due("count(" + what + ")", x.count(what), model.count(what));
        int tree = aTree();
        for (int what = -1; what <= 8; what++) {
            due("tree(" + tree + ", " + what + ")", x.tree(tree, what), model.tree(tree, what));
        }
        for (int kind = -1; kind <= 5; kind++) {
            due("as(" + tree + ", " + kind + ")", x.as(tree, kind), model.as(tree, kind));
        }
        for (int loan = -1; loan <= model.loans.size(); loan++) {
            for (int what = -1; what <= 5; what++) {
                due("loan(" + loan + ", " + what + ")", x.loan(loan, what), model.loan(loan, what));
            }
        }
    }
}
