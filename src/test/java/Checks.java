import java.nio.charset.StandardCharsets;
import java.util.function.IntSupplier;

/** Counts answers that are not as due, and tells texts to an object. */
final class Checks {
    private int done = 0;
    private int wrong = 0;

    void due(String call, int got, int want) {
        done++;
        if (got != want) {
            wrong++;
            System.out.println(call + " answered " + got + ", due is " + want);
        }
    }

    void holds(String what, boolean isSo) {
        due(what, isSo ? 1 : 0, 1);
    }

    /** A call that is refused: its answer, and that all that can be seen is as it was. */
    void refused(TreeDebts x, String call, IntSupplier made, int want) {
        String before = look(x);
        due(call, made.getAsInt(), want);
        holds(call + " changes nothing", look(x).equals(before));
    }

    /** A text that has no FAULT is told and done. */
    void tell(TreeDebts x, String text, int lines) {
        write(x, text);
        due("fault() of '" + text + "'", x.fault(), TreeDebts.NONE);
        due("wood() of '" + text + "'", x.wood(), lines);
        due("count(7) behind '" + text + "'", x.count(7), 0);
    }

    TreeDebts wood(String text) {
        TreeDebts x = new TreeDebts();
        tell(x, text, text.split(";", -1).length);
        return x;
    }

    void fault(TreeDebts x, String text, int place) {
        write(x, text);
        due("fault() of '" + text + "'", x.fault(), place);
        if (place != TreeDebts.NONE) refused(x, "wood() of '" + text + "'", x::wood, TreeDebts.NOT);
        due("erase() of '" + text + "'", x.erase(), text.length());
    }

    static void write(TreeDebts x, String text) {
        byte[] bytes = text.getBytes(StandardCharsets.ISO_8859_1);
        for (int at = 0; at < bytes.length; at += 8) {
            int n = Math.min(8, bytes.length - at);
            long row = 0;
            for (int i = 0; i < n; i++) row |= (bytes[at + i] & 255L) << 8 * i;
            x.write(row, n);
        }
    }

    static String look(TreeDebts x) {
        StringBuilder all = new StringBuilder();
        for (int what = 0; what < 8; what++) all.append(x.count(what)).append(' ');
        for (int tree = 0; tree < x.count(0); tree++) {
            for (int what = 0; what < 8; what++) all.append(x.tree(tree, what)).append(' ');
        }
        for (int loan = 0; loan < x.count(3); loan++) {
            for (int what = 0; what < 5; what++) all.append(x.loan(loan, what)).append(' ');
        }
        return all.append(x.fault()).toString();
    }

    void end() {
        System.out.println(done + " answers looked at, " + wrong + " not as due");
        if (wrong != 0) System.exit(1);
    }
}
