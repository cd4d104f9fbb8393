import java.nio.charset.StandardCharsets;
import java.util.ArrayList;
import java.util.List;
import java.util.function.ToIntFunction;

/**
 * A run of calls on one new object, remembered, so that it can be made again on another one: to look at all that there
 * is takes many calls, and nothing is promised about an object after its 512th.
 */
final class Run {
    static final int MOST_CALLS = 512;

    private final TreeDebts object = new TreeDebts();
    private final List<ToIntFunction<TreeDebts>> calls = new ArrayList<>();
    private final List<Integer> answers = new ArrayList<>();

    private int call(ToIntFunction<TreeDebts> made) {
        if (calls.size() == MOST_CALLS) throw new IllegalStateException("a test makes a 513th call on one object");
        int answer = made.applyAsInt(object);
        calls.add(made);
        answers.add(answer);
        return answer;
    }

    int length() {
        return calls.size();
    }

    /** The same calls on another object; each must answer as it did. */
    Run again() {
        Run other = new Run();
        for (int i = 0; i < calls.size(); i++) {
            if (other.call(calls.get(i)) != answers.get(i)) {
                throw new IllegalStateException("call " + i + " of a run answers otherwise when it is made again");
            }
        }
        return other;
    }

    void writeText(String text) {
        byte[] bytes = text.getBytes(StandardCharsets.ISO_8859_1);
        for (int at = 0; at < bytes.length; at += 8) {
            int n = Math.min(8, bytes.length - at);
            long row = 0;
            for (int i = 0; i < n; i++) row |= (bytes[at + i] & 255L) << 8 * i;
            write(row, n);
        }
    }

    /** What can be seen of the wood as it is now. */
    String now() {
        return again().seen();
    }

    /** All that can be seen: the wood, what is kept, what THE TEXT says, what was told, who quarrels with whom. */
    String everything() {
        Run first = again();
        first.back(0);
        Run second = again();
        second.back(1);
        Run done = again();
        int lines = done.wood();
        return now() + "/ kept 0: " + first.seen() + "/ kept 1: " + second.seen() + "/ text: " + lines + " "
            + done.seen() + "/ told: " + told();
    }

    private String seen() {
        StringBuilder all = new StringBuilder();
        for (int what = 0; what < 8; what++) all.append(count(what)).append(' ');
        for (int tree = 0; tree < count(0); tree++) {
            for (int what = 0; what < 8; what++) all.append(tree(tree, what)).append(' ');
        }
        for (int loan = 0; loan < count(3); loan++) {
            for (int what = 0; what < 5; what++) all.append(loan(loan, what)).append(' ');
        }
        return all.append(fault()).toString();
    }

    /** Each TREE lends a BRANCH in turn, from the beginning, and those that are CROSS by it quarrel with it. */
    private String told() {
        Run anew = again();
        anew.erase();
        anew.writeText("hands 0");
        anew.wood();
        anew.keep(0);
        StringBuilder all = new StringBuilder(anew.again().seen());
        for (int tree = 0; tree < anew.count(0); tree++) {
            all.append(" ").append(anew.borrow(tree, 1)).append(":");
            for (int other = 0; other < anew.count(0); other++) all.append(anew.tree(other, 7));
            anew.back(0);
        }
        return all.toString();
    }

    int write(long bytes, int n) { return call(x -> x.write(bytes, n)); }
    int erase() { return call(TreeDebts::erase); }
    int fault() { return call(TreeDebts::fault); }
    int wood() { return call(TreeDebts::wood); }
    int tree(int tree, int what) { return call(x -> x.tree(tree, what)); }
    int loan(int loan, int what) { return call(x -> x.loan(loan, what)); }
    int as(int tree, int kind) { return call(x -> x.as(tree, kind)); }
    int borrow(int tree, int n) { return call(x -> x.borrow(tree, n)); }
    int days(int n) { return call(x -> x.days(n)); }
    int fire(int part) { return call(x -> x.fire(part)); }
    int sell(int tree, int to) { return call(x -> x.sell(tree, to)); }
    int keep(int k) { return call(x -> x.keep(k)); }
    int back(int k) { return call(x -> x.back(k)); }
    int later(int tree, int t) { return call(x -> x.later(tree, t)); }
    int all(int t, int what) { return call(x -> x.all(t, what)); }
    int clear() { return call(TreeDebts::clear); }
    int hut(int b, int t, int tree) { return call(x -> x.hut(b, t, tree)); }
    int enough(int t) { return call(x -> x.enough(t)); }
    int rid(int p, int part) { return call(x -> x.rid(p, part)); }
    int grandson(int t) { return call(x -> x.grandson(t)); }
    int toWhom(int b, int t, int v) { return call(x -> x.toWhom(b, t, v)); }
    int count(int what) { return call(x -> x.count(what)); }
}
