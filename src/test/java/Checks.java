import java.util.function.IntSupplier;

/** Counts answers that are not as due, and tells them with the sentence of the document that they break. */
final class Checks {
    private int sentences = 0;
    private int done = 0;
    private int wrong = 0;
    private String sentence = "";

    /** The words of the document that the checks behind this one are about. */
    void sentence(String words) {
        sentences++;
        sentence = "\"" + words + "\": ";
    }

    void due(String call, int got, int want) {
        done++;
        if (got != want) {
            wrong++;
            System.out.println(sentence + call + " answered " + got + ", due is " + want);
        }
    }

    void holds(String what, boolean isSo) {
        due(what, isSo ? 1 : 0, 1);
    }

    /** A call that answers, and all that can be seen is as it was. */
    void unchanged(Run x, String call, IntSupplier made, int want) {
        String before = x.everything();
        due(call, made.getAsInt(), want);
        holds(call + " changes nothing", x.everything().equals(before));
    }

    /** A call that is refused: nothing changes by it. */
    void refused(Run x, String call, IntSupplier made, int want) {
        unchanged(x, call, made, want);
    }

    /** A text that has no FAULT is told and done. */
    void tell(Run x, String text, int lines) {
        x.writeText(text);
        due("fault() of '" + text + "'", x.fault(), TreeDebts.NONE);
        due("wood() of '" + text + "'", x.wood(), lines);
        due("count(7) behind '" + text + "'", x.count(7), 0);
    }

    Run wood(String text) {
        Run x = new Run();
        tell(x, text, text.split(";", -1).length);
        return x;
    }

    /** Where a text has its FAULT, if it is told behind a run; the run itself stays as it is. */
    void fault(Run x, String text, int place) {
        Run y = x.again();
        y.writeText(text);
        due("fault() of '" + text + "'", y.fault(), place);
        if (place != TreeDebts.NONE) refused(y, "wood() of '" + text + "'", y::wood, TreeDebts.NOT);
        due("erase() of '" + text + "'", y.erase(), text.length());
    }

    void end() {
        System.out.println((sentences > 0 ? sentences + " sentences, " : "") + done + " answers looked at, " + wrong
            + " not as due");
        if (wrong != 0) System.exit(1);
    }
}
