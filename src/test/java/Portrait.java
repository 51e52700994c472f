import java.util.ArrayList;
import java.util.List;
import java.util.function.Supplier;

/**
 * All that a table tells, a line for each call. Asking alters a table, and a table has but 512
 * calls, so each page of the portrait is asked of a table that is made anew.
 */
final class Portrait {
    private static final int MOST_FORM_NUMBERS = 110;

    private final List<String> lines = new ArrayList<>();
    private final int[] rows;
    private final int nodes;
    private PreferTable t;

    private Portrait(int[] rows, int nodes) {
        this.rows = rows;
        this.nodes = nodes;
    }

    /** Of a table with these rows and so many nodes. */
    static List<String> of(Supplier<PreferTable> maker, int[] rows, int nodes) {
        Portrait portrait = new Portrait(rows, nodes);
        portrait.t = maker.get();
        portrait.askWhatIsKept();
        portrait.t = maker.get();
        portrait.askRowsAndRoom();
        portrait.t = maker.get();
        portrait.askLayersAndEdges();
        for (int node = 0; node < nodes; node++) {
            portrait.t = maker.get();
            portrait.compareRows(node);
            portrait.t = maker.get();
            portrait.askForBest(node);
        }
        return portrait.lines;
    }

    /** The first line in which two portraits are not the same, as each has it. */
    static String difference(List<String> one, List<String> other) {
        for (int i = 0; i < Math.min(one.size(), other.size()); i++) {
            if (!one.get(i).equals(other.get(i))) {
                return one.get(i) + ", not " + other.get(i);
            }
        }
        return one.size() == other.size() ? "none" : "one is longer";
    }

    private String ask(String text, Supplier<Object> call) {
        String outcome = Check.outcome(call);
        lines.add(text + " is " + outcome);
        return outcome;
    }

    private void askWhatIsKept() {
        askAnswer("the ANSWER kept");
        for (int k = 0; k < MOST_FORM_NUMBERS; k++) {
            int number = k;
            if (ask("the FORM kept at " + k, () -> t.form(number)).startsWith("Index")) {
                break;
            }
        }
        for (int s = 0; s < 4; s++) {
            for (int w = 0; w < 3; w++) {
                askSaved(s, w);
            }
        }
    }

    private void askAnswer(String text) {
        int count = t.answer(-1);
        lines.add(text + " has " + count);
        for (int i = 0; i < count; i++) {
            lines.add(text + " at " + i + " is " + t.answer(i));
        }
    }

    private void askSaved(int s, int w) {
        int count = t.saved(s, w, -1);
        lines.add("saved " + s + " " + w + " has " + count);
        for (int i = 0; i < count; i++) {
            lines.add("saved " + s + " " + w + " at " + i + " is " + t.saved(s, w, i));
        }
    }

    private void askRowsAndRoom() {
        for (int row : rows) {
            for (int column = 0; column < 4; column++) {
                int c = column;
                ask("value " + row + " " + c, () -> t.value(row, c));
            }
        }
        ask("the next condition", () -> t.condition(0, 0, 0));
        for (int i = 0; i < nodes; i++) {
            int node = i;
            ask("a term of node " + i + " twice", () -> t.term(8, node, node));
        }
        for (int i = 0; i < 3; i++) {
            ask("the next order", () -> t.order(0, 0, 0, 0));
        }
        ask("the next row", () -> t.row(0, 0, 0, 0));
        ask("the first row goes", () -> t.remove(rows.length == 0 ? 0 : rows[0]));
        for (int i = 0; i < 25; i++) {
            ask("the next row", () -> t.row(0, 0, 0, 0));
        }
    }

    /** By two rows of its own, which is why it stands on a page of its own. */
    private void askLayersAndEdges() {
        if (nodes < 6 || rows.length < 2) {
            return;
        }
        for (int x = 0; x < 10; x++) {
            t.change(rows[0], 2, x);
            t.change(rows[1], 2, (x + 1) % 10);
            ask("LAYERS of " + x + " and the next", () -> t.compare(4, rows[0], rows[1]));
            for (int y = 0; y < 10; y++) {
                int better = x;
                int worse = y;
                ask("edge " + x + " " + y, () -> t.edge(5, better, worse));
            }
        }
    }

    private void compareRows(int node) {
        for (int i = 0; i < rows.length; i++) {
            int u = rows[i];
            int v = rows[(i + 1) % rows.length];
            int w = rows[i * 5 % rows.length];
            String text = " of node " + node + ", rows " + u + " and ";
            ask("compare" + text + v, () -> t.compare(node, u, v));
            ask("compare" + text + w, () -> t.compare(node, u, w));
            ask("reason 0" + text + v, () -> t.reason(node, u, v, 0));
            ask("reason 1" + text + w, () -> t.reason(node, u, w, 1));
            ask("level of node " + node + ", row " + u, () -> t.level(node, u));
        }
    }

    private void askForBest(int node) {
        ask("best " + node, () -> t.best(node));
        askAnswer("best " + node);
        ask("grouped " + node, () -> t.grouped(node, 3));
        askAnswer("grouped " + node);
        ask("top " + node, () -> t.top(node, 24));
        askAnswer("top " + node);
        int length = t.reduce(node);
        for (int k = 0; k < length; k++) {
            lines.add("form of node " + node + " at " + k + " is " + t.form(k));
        }
    }
}
