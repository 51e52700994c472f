import java.util.ArrayList;
import java.util.List;

/** The first sentence of 'What it is', part by part; CallLimitTest has the second one. */
public final class WhatItIsTest {
    private static final int LOW = 0;
    private static final int HIGH = 1;
    private static final int AROUND = 2;
    private static final int BETWEEN = 3;
    private static final int LAYERS = 4;
    private static final int GRAPH = 5;
    private static final int PARETO = 6;
    private static final int PRIOR = 7;
    private static final int BOTH = 8;
    private static final int DUAL = 9;
    private static final int NEITHER = 0;
    private static final int BETTER = 1;
    private static final int WORSE = 2;
    private static final int SAME = 3;

    // Rows of which the orders of addOrders() say all kinds of things.
    private static final int[][] ROWS = {
        {0, 0, 0, 0}, {1, 2, 1, 1}, {0, 1, 2, 2}, {2, 1, 3, 3}, {1, 2, 1, 1}, {2, 0, 3, 2},
    };

    public static void main(String[] args) {
        Check.sentence("A table of rows that is asked what is best", WhatItIsTest::whatIsBest);
        Check.sentence("orders of single columns are put together to preferences",
            WhatItIsTest::putTogether);
        Check.sentence("in which of two rows one is better, worse, the same, or neither",
            WhatItIsTest::ofTwoRows);
        Check.sentence("hard conditions come first", WhatItIsTest::conditionsComeFirst);
        Check.sentence("questions can be saved, and are kept up while rows come, change and go",
            WhatItIsTest::questionsAreKeptUp);
        Check.sentence("terms are made simpler without changing what they say",
            WhatItIsTest::simplerTermsSayTheSame);
        Check.end();
    }

    private static void whatIsBest() {
        PreferTable t = new PreferTable();
        t.row(30, 1, 0, 0);
        t.row(20, 2, 0, 0);
        t.row(25, 3, 0, 0);
        t.row(20, 4, 0, 0);
        int low = t.order(LOW, 0, 0, 0);
        int high = t.order(HIGH, 1, 0, 0);
        Check.same("best(low)", t.best(low), 2);
        Check.same("those with 20", Check.answer(t), "1 3");
        Check.same("best(high)", t.best(high), 1);
        Check.same("that with 4", Check.answer(t), "3");
    }

    /** PRIOR of (LOW of column 0 PARETO HIGH of 1), and then (AROUND of 2 BOTH BETWEEN of 3). */
    private static void putTogether() {
        PreferTable t = new PreferTable();
        int first = t.term(PARETO, t.order(LOW, 0, 0, 0), t.order(HIGH, 1, 0, 0));
        int second = t.term(BOTH, t.order(AROUND, 2, 5, 0), t.order(BETWEEN, 3, 1, 3));
        int all = t.term(PRIOR, first, second);
        int u = t.row(1, 1, 5, 2);
        Check.same("beaten in column 1 alone", t.compare(all, u, t.row(1, 2, 9, 9)), WORSE);
        Check.same("better in 0, worse in 1", t.compare(all, u, t.row(2, 2, 9, 9)), NEITHER);
        Check.same("better in 0, though not in 3", t.compare(all, u, t.row(2, 1, 9, 1)), BETTER);
        Check.same("the same, better in 2 and 3", t.compare(all, u, t.row(1, 1, 6, 4)), BETTER);
        Check.same("the same, better in 2 alone", t.compare(all, u, t.row(1, 1, 6, 3)), NEITHER);
        Check.same("the same in all", t.compare(all, u, t.row(1, 1, 5, 2)), SAME);
        Check.same("best(all)", t.best(all), 1);
        Check.same("row 1 beats all others", Check.answer(t), "1");
    }

    private static void ofTwoRows() {
        PreferTable t = new PreferTable();
        int preference = t.term(PARETO, t.order(LOW, 0, 0, 0), t.order(HIGH, 1, 0, 0));
        int u = t.row(5, 5, 0, 0);
        Check.same("better", t.compare(preference, u, t.row(6, 4, 0, 0)), BETTER);
        Check.same("worse", t.compare(preference, u, t.row(4, 6, 0, 0)), WORSE);
        Check.same("the same", t.compare(preference, u, t.row(5, 5, 9, 9)), SAME);
        Check.same("neither", t.compare(preference, u, t.row(4, 4, 0, 0)), NEITHER);
    }

    /** Row 0 beats all others in LOW, but does not pass: so it beats none. */
    private static void conditionsComeFirst() {
        PreferTable t = Bounds.withRows(4);
        int low = t.order(LOW, 0, 0, 0);
        t.condition(1, 1, 0);
        t.best(low);
        Check.same("best", Check.answer(t), "1");
        t.grouped(low, 0);
        Check.same("grouped", Check.answer(t), "1 2 3");
        t.top(low, 2);
        Check.same("top", Check.answer(t), "1 2");
        Check.same("level of the one that does not pass", t.level(low, 0), 0);
        Check.same("level of the next one", t.level(low, 1), 1);
        t.save(0, low);
        Check.same("saved", Check.saved(t, 0, 0), "1");
        Check.same("a preference says what it says all the same", t.compare(low, 0, 1), BETTER);
    }

    /** After each step a saved question has what is best if it is asked anew. */
    private static void questionsAreKeptUp() {
        PreferTable t = new PreferTable();
        addOrders(t);
        int term = t.term(PARETO, t.term(PRIOR, 0, 2), 1);
        t.condition(2, 5, 0);
        t.save(0, term);
        t.save(3, 0);
        for (int i = 0; i < 12; i++) {
            t.row(i * 5 % 7, i * 3 % 5, i % 4 - 1, i * 7 % 5);
            expectAsBest(t, term);
            t.change(i / 2, i % 4, i % 3);
            expectAsBest(t, term);
            t.remove(i * 5 % 11);
            expectAsBest(t, term);
        }
    }

    private static void expectAsBest(PreferTable t, int term) {
        t.best(term);
        Check.same("question 0", t.saved(0, 0, -1), t.answer(-1));
        Check.same("its first row", t.saved(0, 0, 0), t.answer(0));
        Check.same("its next row", t.saved(0, 0, 1), t.answer(1));
        t.best(0);
        Check.same("question 3", t.saved(3, 0, -1), t.answer(-1));
        Check.same("its first row", t.saved(3, 0, 0), t.answer(0));
    }

    /** LAYERS and GRAPH come first, so that they can have the same numbers in another table. */
    private static void addLayersAndGraph(PreferTable t) {
        t.order(LAYERS, 3, 0, 0);
        t.order(GRAPH, 2, 0, 0);
        t.layer(0, 0, 2);
        t.layer(0, 2, 0);
        t.edge(1, 1, 0);
        t.edge(1, 0, 3);
    }

    /** Nodes 0 LAYERS, 1 GRAPH, and 2 to 7 orders of all the other kinds. */
    private static void addOrders(PreferTable t) {
        addLayersAndGraph(t);
        t.order(LOW, 0, 0, 0);
        t.order(HIGH, 0, 0, 0);
        t.order(HIGH, 1, 0, 0);
        t.order(AROUND, 2, 1, 0);
        t.order(BETWEEN, 2, 1, 2);
        t.order(LOW, 0, 9, 9);
    }

    private static void addRows(PreferTable t) {
        for (int[] row : ROWS) {
            t.row(row[0], row[1], row[2], row[3]);
        }
    }

    /** Of each two of the orders and their DUALs: a term, its DUAL, and terms of these. */
    private static void simplerTermsSayTheSame() {
        for (int kind = PARETO; kind <= BOTH; kind++) {
            for (int p = 0; p < 16; p++) {
                for (int q = 0; q < 16; q++) {
                    PreferTable t = new PreferTable();
                    addOrders(t);
                    for (int order = 0; order < 8; order++) {
                        t.term(DUAL, order, 0);
                    }
                    addRows(t);
                    int size = 1 + (p < 8 ? 1 : 2) + (q < 8 ? 1 : 2);
                    int term = t.term(kind, p, q);
                    int dual = t.term(DUAL, term, 0);
                    int ofBoth = t.term(PARETO + (p + q) % 3, dual, term);
                    int withAnother = t.term(PARETO + (p + q) % 3, (p * 5 + q * 3) % 8, term);
                    expectTheSame(t, term, size);
                    expectTheSame(t, dual, size + 1);
                    expectTheSame(t, ofBoth, 2 * size + 2);
                    expectTheSame(t, withAnother, size + 2);
                }
            }
        }
    }

    /** The node that the FORM tells of says what this one says, and cannot be made simpler. */
    private static void expectTheSame(PreferTable t, int node, int size) {
        List<Integer> form = formOf(t, node);
        PreferTable again = new PreferTable();
        addLayersAndGraph(again);
        addRows(again);
        FormNodes nodes = new FormNodes(again, form);
        int simpler = nodes.make();
        Check.yes("not larger", nodes.size() <= size);
        Check.same("reduced once more", formOf(again, simpler).toString(), form.toString());
        for (int u = 0; u < ROWS.length; u++) {
            for (int v = 0; v < ROWS.length; v++) {
                Check.same("what " + form + " says of " + u + ", " + v,
                    again.compare(simpler, u, v), t.compare(node, u, v));
            }
        }
    }

    private static List<Integer> formOf(PreferTable t, int node) {
        List<Integer> form = new ArrayList<>();
        int count = t.reduce(node);
        for (int k = 0; k < count; k++) {
            form.add(t.form(k));
        }
        return form;
    }
}
