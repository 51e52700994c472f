import java.util.ArrayList;
import java.util.List;
import java.util.function.Function;
import java.util.function.Supplier;

/**
 * Every call that throws, or answers false or NONE, on tables of several states: it answers that,
 * and after it the table tells what it told before.
 */
public final class RefusedCallsTest {
    private static final int LEAST = Bounds.LEAST;
    private static final int GREATEST = Bounds.GREATEST;
    private static final String STATE = "IllegalStateException";
    private static final String ARGUMENT = "IllegalArgumentException";
    private static final String INDEX = "IndexOutOfBoundsException";
    private static final String FALSE = "false";
    private static final String NONE = "-1";

    private record Call(String text, String due, Function<PreferTable, Object> made) {
    }

    private final List<Call> calls = new ArrayList<>();
    private final Supplier<PreferTable> maker;
    private final int[] rows;
    private final int nodes;
    // Some row and some node that are there, unless there are none at all.
    private final int row;
    private final int node = 0;

    private RefusedCallsTest(Supplier<PreferTable> maker, int[] rows, int nodes) {
        this.maker = maker;
        this.rows = rows;
        this.nodes = nodes;
        row = rows.length == 0 ? 0 : rows[0];
    }

    public static void main(String[] args) {
        String words = "What throws, or answers false or NONE, changes nothing ";
        Check.sentence(words + "(a new table)", RefusedCallsTest::inNewTable);
        Check.sentence(words + "(a table with something of everything)", RefusedCallsTest::inSome);
        Check.sentence(words + "(a table with no room)", RefusedCallsTest::inFull);
        Check.sentence(words + "(a table after 120 rows)", RefusedCallsTest::inSpent);
        Check.sentence("What is only asked changes nothing", RefusedCallsTest::asking);
        Check.end();
    }

    private static void inNewTable() {
        RefusedCallsTest test = new RefusedCallsTest(PreferTable::new, new int[0], 0);
        test.callWithWrongRows(LEAST, -1, 0, 1, 24, 119, 120, GREATEST);
        test.callWithWrongNodes(LEAST, -1, 0, 1, 23, 24, GREATEST);
        test.callWithWrongColumns();
        test.makeWrongNodes();
        test.askForNone(0, 0);
        test.askForNothingSaved();
        test.checkAll();
    }

    private static void inSome() {
        int[] rows = {1, 2, 3, 4, 5};
        RefusedCallsTest test = new RefusedCallsTest(Tables::some, rows, 14);
        test.callWithWrongRows(LEAST, -1, 0, 6, 7, 24, 119, 120, GREATEST);
        test.callWithWrongNodes(LEAST, -1, 14, 15, 23, 24, GREATEST);
        test.callWithWrongColumns();
        test.makeWrongNodes();
        test.alterWrongNodes();
        test.askForNone(1, 14);
        for (int kind = 6; kind < 9; kind++) {
            int k = kind;
            test.add("a term of the SIZE 41", STATE, t -> t.term(k, 13, 0));
            test.add("a term of the SIZE 79", STATE, t -> t.term(k, 13, 13));
        }
        test.add("read(1)", FALSE, t -> t.read(1));
        test.add("saved(3, 0, -1)", NONE, t -> t.saved(3, 0, -1));
        test.checkAll();
    }

    private static void inFull() {
        int[] rows = new int[24];
        for (int i = 0; i < rows.length; i++) {
            rows[i] = i;
        }
        RefusedCallsTest test = new RefusedCallsTest(Tables::full, rows, 24);
        test.callWithWrongRows(LEAST, -1, 24, 25, 48, 119, 120, GREATEST);
        test.callWithWrongNodes(LEAST, -1, 24, 25, 32, GREATEST);
        test.callWithWrongColumns();
        test.makeWrongNodes();
        test.alterWrongNodes();
        test.askForNone(9, 25);
        test.add("row(1, 2, 3, 4)", STATE, t -> t.row(1, 2, 3, 4));
        test.add("condition(0, 0, 0)", STATE, t -> t.condition(0, 0, 0));
        test.add("condition(3, 5, least)", STATE, t -> t.condition(3, 5, LEAST));
        for (int kind = 0; kind < 6; kind++) {
            int k = kind;
            test.add("order of kind " + k, STATE, t -> t.order(k, 3, 0, 1));
        }
        for (int kind = 6; kind < 10; kind++) {
            int k = kind;
            test.add("term of kind " + k, STATE, t -> t.term(k, 0, 1));
        }
        test.checkAll();
    }

    private static void inSpent() {
        RefusedCallsTest test = new RefusedCallsTest(Tables::spent, new int[] {117, 118, 119}, 2);
        test.callWithWrongRows(LEAST, -1, 0, 93, 116, 120, GREATEST);
        test.callWithWrongNodes(LEAST, -1, 2, 23, 24, GREATEST);
        test.callWithWrongColumns();
        test.askForNone(2, 0);
        test.askForNothingSaved();
        test.add("row(1, 2, 3, 4)", STATE, t -> t.row(1, 2, 3, 4));
        test.checkAll();
    }

    /** No sentence of its own says it, but nothing says that these calls change anything either. */
    private static void asking() {
        RefusedCallsTest test = new RefusedCallsTest(Tables::some, new int[] {1, 2, 3, 4, 5}, 14);
        test.add("value(1, 3)", "2", t -> t.value(1, 3));
        test.add("compare(0, 3, 1)", "1", t -> t.compare(0, 3, 1));
        test.add("level(0, 3)", "1", t -> t.level(0, 3));
        test.add("answer(-1)", "1", t -> t.answer(-1));
        test.add("reason(0, 3, 1, 0)", "0", t -> t.reason(0, 3, 1, 0));
        test.add("saved(0, 0, -1)", "3", t -> t.saved(0, 0, -1));
        test.add("form(0)", "6", t -> t.form(0));
        test.checkAll();
    }

    private void add(String text, String due, Function<PreferTable, Object> made) {
        calls.add(new Call(text, due, made));
    }

    private void checkAll() {
        List<String> before = Portrait.of(maker, rows, nodes);
        for (Call call : calls) {
            PreferTable t = maker.get();
            Check.same(call.text(), Check.outcome(() -> call.made().apply(t)), call.due());
            List<String> after = Portrait.of(() -> after(call), rows, nodes);
            Check.same("the change by " + call.text(), Portrait.difference(after, before), "none");
        }
    }

    private PreferTable after(Call call) {
        PreferTable t = maker.get();
        Check.outcome(() -> call.made().apply(t));
        return t;
    }

    private void callWithWrongRows(int... wrong) {
        for (int r : wrong) {
            add("change(" + r + ", 0, 9)", FALSE, t -> t.change(r, 0, 9));
            add("remove(" + r + ")", FALSE, t -> t.remove(r));
            add("value(" + r + ", 0)", INDEX, t -> t.value(r, 0));
            add("compare with u = " + r, INDEX, t -> t.compare(node, r, row));
            add("compare with v = " + r, INDEX, t -> t.compare(node, row, r));
            add("compare with both = " + r, INDEX, t -> t.compare(node, r, r));
            add("level(.., " + r + ")", INDEX, t -> t.level(node, r));
            add("reason with u = " + r, INDEX, t -> t.reason(node, r, row, 0));
            add("reason with v = " + r, INDEX, t -> t.reason(node, row, r, 1));
            add("reason with both = " + r, INDEX, t -> t.reason(node, r, r, 2));
        }
    }

    private void callWithWrongNodes(int... wrong) {
        for (int n : wrong) {
            add("layer(" + n + ", 0, 0)", FALSE, t -> t.layer(n, 0, 0));
            add("edge(" + n + ", 0, 1)", ARGUMENT, t -> t.edge(n, 0, 1));
            add("compare(" + n + ", ..)", INDEX, t -> t.compare(n, row, row));
            add("best(" + n + ")", INDEX, t -> t.best(n));
            add("grouped(" + n + ", 0)", INDEX, t -> t.grouped(n, 0));
            add("top(" + n + ", 2)", INDEX, t -> t.top(n, 2));
            add("level(" + n + ", ..)", INDEX, t -> t.level(n, row));
            add("reason(" + n + ", ..)", INDEX, t -> t.reason(n, row, row, 0));
            add("save(0, " + n + ")", INDEX, t -> t.save(0, n));
            add("save(3, " + n + ")", INDEX, t -> t.save(3, n));
            add("reduce(" + n + ")", INDEX, t -> t.reduce(n));
            for (int kind = 6; kind <= 9; kind++) {
                int k = kind;
                add("term(" + k + ", " + n + ", 0)", ARGUMENT, t -> t.term(k, n, 0));
                if (k < 9) {
                    add("term(" + k + ", 0, " + n + ")", ARGUMENT, t -> t.term(k, 0, n));
                }
            }
        }
    }

    private void callWithWrongColumns() {
        for (int c : Bounds.outside(3)) {
            add("change(.., " + c + ", 9)", FALSE, t -> t.change(row, c, 9));
            add("value(.., " + c + ")", INDEX, t -> t.value(row, c));
            add("order(0, " + c + ", ..)", ARGUMENT, t -> t.order(0, c, 0, 0));
            add("order(5, " + c + ", ..)", ARGUMENT, t -> t.order(5, c, 0, 0));
            add("condition(" + c + ", 1, 0)", ARGUMENT, t -> t.condition(c, 1, 0));
            add("grouped(.., " + c + ")", INDEX, t -> t.grouped(node, c));
        }
        for (int o : Bounds.outside(5)) {
            add("condition(0, " + o + ", 0)", ARGUMENT, t -> t.condition(0, o, 0));
        }
    }

    private void makeWrongNodes() {
        for (int kind : Bounds.outside(5)) {
            add("order of kind " + kind, ARGUMENT, t -> t.order(kind, 0, 0, 0));
        }
        for (int kind : new int[] {LEAST, -1, 0, 5, 10, 38, GREATEST}) {
            add("term of kind " + kind, ARGUMENT, t -> t.term(kind, 0, 0));
        }
        add("BETWEEN 1, 0", ARGUMENT, t -> t.order(3, 0, 1, 0));
        add("BETWEEN greatest, least", ARGUMENT, t -> t.order(3, 0, GREATEST, LEAST));
    }

    /** In tables whose nodes 0 to 5 are as in Tables, and which have a node of each kind. */
    private void alterWrongNodes() {
        for (int n : new int[] {0, 1, 2, 3, 5, 6, 7, 8, 9, 10, 11}) {
            add("layer of node " + n, FALSE, t -> t.layer(n, 0, 0));
        }
        for (int n : new int[] {0, 1, 2, 3, 4, 6, 7, 8, 9, 10, 11}) {
            add("edge of node " + n, ARGUMENT, t -> t.edge(n, 0, 2));
        }
        for (int v : Bounds.outside(9)) {
            add("layer(4, " + v + ", 1)", FALSE, t -> t.layer(4, v, 1));
            add("layer(4, " + v + ", -1)", FALSE, t -> t.layer(4, v, -1));
            add("edge(5, " + v + ", 0)", ARGUMENT, t -> t.edge(5, v, 0));
            add("edge(5, 0, " + v + ")", ARGUMENT, t -> t.edge(5, 0, v));
            add("edge(5, " + v + ", " + v + ")", ARGUMENT, t -> t.edge(5, v, v));
        }
        for (int layer : new int[] {LEAST, -2, 6, 10, 31, 32, GREATEST}) {
            add("layer(4, 3, " + layer + ")", FALSE, t -> t.layer(4, 3, layer));
        }
        add("edge(5, 0, 1), which is there", FALSE, t -> t.edge(5, 0, 1));
        add("edge(5, 9, 4), which is there", FALSE, t -> t.edge(5, 9, 4));
        add("edge(5, 1, 0)", STATE, t -> t.edge(5, 1, 0));
        add("edge(5, 3, 0)", STATE, t -> t.edge(5, 3, 0));
        add("edge(5, 7, 7)", STATE, t -> t.edge(5, 7, 7));
    }

    /** Of an ANSWER and a FORM of so many, and where there may be nodes and saved questions. */
    private void askForNone(int answers, int formNumbers) {
        for (int i : new int[] {LEAST, -2, answers, answers + 1, GREATEST}) {
            add("answer(" + i + ")", NONE, t -> t.answer(i));
        }
        for (int k : new int[] {LEAST, -1, formNumbers, formNumbers + 1, GREATEST}) {
            add("form(" + k + ")", INDEX, t -> t.form(k));
        }
        for (int s : Bounds.outside(3)) {
            add("read(" + s + ")", FALSE, t -> t.read(s));
            add("save(" + s + ", ..)", INDEX, t -> t.save(s, node));
            add("saved(" + s + ", 0, -1)", NONE, t -> t.saved(s, 0, -1));
        }
        for (int w : Bounds.outside(2)) {
            add("saved(0, " + w + ", -1)", NONE, t -> t.saved(0, w, -1));
        }
        for (int i : new int[] {LEAST, -2, 24, GREATEST}) {
            add("saved(0, 0, " + i + ")", NONE, t -> t.saved(0, 0, i));
        }
        if (nodes > 0) {
            add("top(.., -1)", ARGUMENT, t -> t.top(node, -1));
            add("top(.., least)", ARGUMENT, t -> t.top(node, LEAST));
            add("reason of a row and itself", NONE, t -> t.reason(node, row, row, 0));
            add("reason with w = 2", NONE, t -> t.reason(node, rows[1], rows[0], 2));
            add("reason with w = -1", NONE, t -> t.reason(node, rows[0], rows[1], -1));
        }
    }

    private void askForNothingSaved() {
        for (int question = 0; question < 4; question++) {
            int s = question;
            add("read(" + s + ")", FALSE, t -> t.read(s));
            add("saved(" + s + ", 0, -1)", NONE, t -> t.saved(s, 0, -1));
        }
    }
}
