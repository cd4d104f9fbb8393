import java.util.Random;

/** Promise 18 with as many TREES and BRANCHES as can be: each HUT against every row that there is. */
public final class HutRowsTest {
    private static final String[] KINDS = {"oak", "birch", "twin", "hollow"};
    private static final Checks checks = new Checks();

    private final Random chance;
    private final int[] branches;
    private final int[] rates;
    private final int[] kinds;
    private final Run x;
    private int together = 0;

    /** For each number of BRANCHES the least sum yet and the first row that came to it. */
    private final long[] least;
    private final int[][] firstRow;

    private HutRowsTest(int run) {
        chance = new Random(run);
        int trees = 4 + chance.nextInt(3);
        branches = new int[trees];
        rates = new int[trees];
        kinds = new int[trees];
        StringBuilder text = new StringBuilder();
        // Few rows for each TREE, so that all can be looked at; one TREE has many.
        int rich = chance.nextInt(trees);
        for (int i = 0; i < trees; i++) {
            branches[i] = i == rich ? 40 + chance.nextInt(60) : chance.nextInt(7);
            rates[i] = chance.nextInt(chance.nextBoolean() ? 4 : 51);
            kinds[i] = chance.nextInt(4);
            together += branches[i];
            text.append(i > 0 ? ";" : "").append(KINDS[kinds[i]]).append(' ').append(branches[i]).append(' ')
                .append(rates[i]).append(" 9");
        }
        x = checks.wood(text.toString());
        least = new long[together + 1];
        firstRow = new int[together + 1][];
    }

    public static void main(String[] args) {
        for (int run = 0; run < 200; run++) new HutRowsTest(run).go();
        checks.end();
    }

    private void go() {
        int t = chance.nextInt(31);
        rows(0, 0, 0, new int[branches.length], table(t));
        // All numbers of BRANCHES near the most that there are, and some below; a run has 512 calls.
        for (int b = Math.max(1, together - 20); b <= Math.min(99, together + 2); b++) look(b, t);
        for (int i = 0; i < 20; i++) look(1 + chance.nextInt(99), t);
    }

    private long[][] table(int t) {
        long[][] grown = new long[branches.length][];
        for (int i = 0; i < branches.length; i++) {
            grown[i] = new long[branches[i] + 1];
            for (int n = 1; n <= branches[i]; n++) grown[i][n] = grown(i, n, t);
        }
        return grown;
    }

    private long grown(int tree, int n, int t) {
        long owed = 100L * n;
        for (int i = 0; i < t; i++) {
            long more = kinds[tree] == 3 ? (long) rates[tree] * n
                : owed * (kinds[tree] == 2 ? rates[tree] / 2 : rates[tree]) / 100;
            owed = Math.min(1000000, owed + more);
        }
        return owed;
    }

    /** Rows come by TREES, less first: of like sums the first one is kept. */
    private void rows(int tree, int taken, long sum, int[] row, long[][] grown) {
        if (tree == row.length) {
            if (firstRow[taken] == null || sum < least[taken]) {
                least[taken] = sum;
                firstRow[taken] = row.clone();
            }
            return;
        }
        for (int n = 0; n <= branches[tree]; n++) {
            row[tree] = n;
            rows(tree + 1, taken + n, sum + grown[tree][n], row, grown);
        }
    }

    private void look(int b, int t) {
        boolean isThere = b <= together;
        checks.due("hut(" + b + ", " + t + ", NONE)", x.hut(b, t, TreeDebts.NONE),
            isThere ? (int) least[b] : TreeDebts.NONE);
        for (int tree = 0; tree < branches.length; tree++) {
            checks.due("hut(" + b + ", " + t + ", " + tree + ")", x.hut(b, t, tree),
                isThere ? firstRow[b][tree] : TreeDebts.NONE);
        }
    }
}
