/** Promises 12 and 18, compare and reason, at their bounds: a test for each sentence. */
public final class CompareBoundsTest {
    private static final int LEAST = Bounds.LEAST;
    private static final int GREATEST = Bounds.GREATEST;

    public static void main(String[] args) {
        Check.sentence("12: 0 NEITHER, 1 BETTER, 2 WORSE, 3 SAME", CompareBoundsTest::allFour);
        Check.sentence("12: What a node says of the rows u, v (the first and the last of each)",
            CompareBoundsTest::firstAndLast);
        Check.sentence("12: What a node says of the rows u, v (which do not pass)",
            CompareBoundsTest::rowsThatDoNotPass);
        Check.sentence("12: IndexOutOfBoundsException if there is no such node",
            CompareBoundsTest::compareByNoSuchNode);
        Check.sentence("12: IndexOutOfBoundsException if there is no such .. row",
            CompareBoundsTest::compareNoSuchRow);
        Check.sentence("18: Why row u is better than row v", CompareBoundsTest::whyBetter);
        Check.sentence("18: w = 0: the node that decides", CompareBoundsTest::whoDecides);
        Check.sentence("18: 1: how many nodes lie on the way to it, with both ends",
            CompareBoundsTest::shortestAndLongestWay);
        Check.sentence("18: The way goes from the node itself", CompareBoundsTest::wayFromItself);
        Check.sentence("18: an order decides", CompareBoundsTest::anOrderDecides);
        Check.sentence("18: in PARETO to p if that says BETTER, else to q",
            CompareBoundsTest::wayInPareto);
        Check.sentence("18: in PRIOR to p, but to q if p says SAME", CompareBoundsTest::wayInPrior);
        Check.sentence("18: in BOTH and DUAL to p, in DUAL with u and v changed over",
            CompareBoundsTest::wayInBothAndDual);
        Check.sentence("18: Nodes that come twice are gone to twice",
            CompareBoundsTest::nodesThatComeTwice);
        Check.sentence("18: NONE if it is not BETTER", CompareBoundsTest::notBetter);
        Check.sentence("18: NONE .. for any other w", CompareBoundsTest::anyOtherW);
        Check.sentence("18: IndexOutOfBoundsException if there is no such node",
            CompareBoundsTest::reasonOfNoSuchNode);
        Check.sentence("18: IndexOutOfBoundsException if there is no such .. row",
            CompareBoundsTest::reasonOfNoSuchRow);
        Check.end();
    }

    private static void allFour() {
        PreferTable t = Bounds.tableOf(0, 4, 6, 7, 7);
        t.order(2, 0, 5, 0);
        Check.same("NEITHER", t.compare(0, 0, 1), 0);
        Check.same("BETTER", t.compare(0, 0, 2), 1);
        Check.same("WORSE", t.compare(0, 2, 0), 2);
        Check.same("SAME", t.compare(0, 2, 3), 3);
        for (int row = 0; row < 4; row++) {
            Check.same("a row and itself", t.compare(0, row, row), 3);
        }
    }

    private static void firstAndLast() {
        PreferTable t = Bounds.afterRows(120, 24);
        for (int i = 0; i < 24; i++) {
            t.order(i % 2, i % 4, 0, 0);
        }
        Check.same("node 0", t.compare(0, 96, 119), 1);
        Check.same("node 23", t.compare(23, 96, 119), 2);
        Check.same("node 0, changed over", t.compare(0, 119, 96), 2);
        Check.same("node 23, changed over", t.compare(23, 119, 96), 1);
        Check.same("node 22, neighbours", t.compare(22, 118, 119), 1);
    }

    private static void rowsThatDoNotPass() {
        PreferTable t = Bounds.withRows(2);
        t.order(0, 0, 0, 0);
        t.condition(0, 0, 77);
        Check.same("compare(0, 0, 1)", t.compare(0, 0, 1), 1);
        Check.same("compare(0, 1, 0)", t.compare(0, 1, 0), 2);
        Check.same("reason", t.reason(0, 0, 1, 1), 1);
    }

    private static void compareByNoSuchNode() {
        PreferTable t = Bounds.withRows(2);
        t.order(0, 0, 0, 0);
        for (int node : Bounds.outside(0)) {
            Check.outside("compare(" + node + ", 0, 1)", () -> t.compare(node, 0, 1));
            Check.outside("compare(" + node + ", 0, 0)", () -> t.compare(node, 0, 0));
        }
        Check.same("node 0", t.compare(0, 0, 1), 1);
    }

    private static void compareNoSuchRow() {
        PreferTable t = Bounds.afterRows(120, 24);
        t.order(0, 0, 0, 0);
        for (int row : Bounds.outside(119)) {
            Check.outside("u = " + row, () -> t.compare(0, row, 119));
            Check.outside("v = " + row, () -> t.compare(0, 96, row));
            Check.outside("u = v = " + row, () -> t.compare(0, row, row));
        }
        for (int row : new int[] {0, 23, 24, 71, 72, 95}) {
            Check.outside("u = " + row + ", which is gone", () -> t.compare(0, row, 119));
            Check.outside("v = " + row + ", which is gone", () -> t.compare(0, 96, row));
        }
        Check.outside("no such node, no such row", () -> t.compare(1, 0, 0));
        PreferTable two = Bounds.withRows(2);
        two.order(0, 0, 0, 0);
        Check.outside("the next to be made", () -> two.compare(0, 0, 2));
    }

    /** Nodes 0 LOW of column 0, 1 LOW of column 1, and 2 what is asked for. */
    private static PreferTable tableWith(int kind, int u0, int u1, int v0, int v1) {
        PreferTable t = new PreferTable();
        t.order(0, 0, 0, 0);
        t.order(0, 1, 0, 0);
        t.term(kind, 0, 1);
        t.row(u0, u1, 0, 0);
        t.row(v0, v1, 0, 0);
        return t;
    }

    private static void expect(PreferTable t, int node, int decider, int length) {
        Check.same("the node that decides", t.reason(node, 0, 1, 0), decider);
        Check.same("how many nodes", t.reason(node, 0, 1, 1), length);
    }

    private static void expectNone(PreferTable t, int node, int u, int v) {
        for (int w = -1; w <= 2; w++) {
            Check.none("reason(" + node + ", " + u + ", " + v + ", " + w + ")",
                t.reason(node, u, v, w));
        }
    }

    private static void whoDecides() {
        PreferTable t = Bounds.withRows(2);
        for (int i = 0; i < 24; i++) {
            t.order(0, i % 4, 0, 0);
        }
        expect(t, 0, 0, 1);
        expect(t, 23, 23, 1);
    }

    /** There is a reason just where compare says BETTER. */
    private static void whyBetter() {
        for (int node = 0; node < 14; node++) {
            PreferTable t = Tables.some();
            for (int u = 1; u <= 5; u++) {
                for (int v = 1; v <= 5; v++) {
                    boolean isBetter = t.compare(node, u, v) == 1;
                    String text = " of node " + node + ", rows " + u + ", " + v;
                    for (int w = 0; w <= 1; w++) {
                        boolean isThere = t.reason(node, u, v, w) != PreferTable.NONE;
                        Check.same("w = " + w + text, Boolean.toString(isThere),
                            Boolean.toString(isBetter));
                    }
                }
            }
        }
    }

    /** A term adds one to the way of the node below it; an order has itself alone on its way. */
    private static void wayFromItself() {
        for (int order = 0; order < 6; order++) {
            PreferTable t = Bounds.tableOf(0, 2, 7);
            for (int i = 0; i <= order; i++) {
                t.order(i, 0, 2, 3);
            }
            t.layer(order, 2, 0);
            if (order == 5) {
                t.edge(5, 2, 7);
            }
            int u = order == 1 ? 1 : 0;
            Check.same("who decides in an order", t.reason(order, u, 1 - u, 0), order);
            Check.same("the way of an order", t.reason(order, u, 1 - u, 1), 1);
            for (int kind = 6; kind <= 8; kind++) {
                int term = t.term(kind, order, order);
                Check.same("who decides in a term", t.reason(term, u, 1 - u, 0), order);
                Check.same("the way of a term", t.reason(term, u, 1 - u, 1), 2);
            }
            int dual = t.term(9, order, 0);
            Check.same("who decides in DUAL", t.reason(dual, 1 - u, u, 0), order);
            Check.same("the way of DUAL", t.reason(dual, 1 - u, u, 1), 2);
        }
    }

    /** The one that decides says BETTER of both rows too, or WORSE under DUALs. */
    private static void anOrderDecides() {
        for (int node = 0; node < 14; node++) {
            PreferTable t = Tables.some();
            int found = 0;
            for (int u = 1; u <= 5; u++) {
                for (int v = 1; v <= 5; v++) {
                    int decider = t.reason(node, u, v, 0);
                    if (decider != PreferTable.NONE) {
                        found++;
                        Check.yes("nodes 0 to 5 are orders", decider >= 0 && decider < 6);
                        int verdict = t.compare(decider, u, v);
                        Check.yes("it says BETTER or WORSE", verdict == 1 || verdict == 2);
                    }
                }
            }
            Check.yes("node " + node + " says BETTER of some rows", found > 0);
        }
    }

    private static void shortestAndLongestWay() {
        PreferTable t = Bounds.withRows(2);
        t.order(0, 0, 0, 0);
        expect(t, 0, 0, 1);
        for (int i = 1; i < 24; i++) {
            t.term(9, i - 1, 0);
        }
        for (int node = 0; node < 24; node++) {
            int u = node % 2;
            Check.same("who decides", t.reason(node, u, 1 - u, 0), 0);
            Check.same("the way of node " + node, t.reason(node, u, 1 - u, 1), node + 1);
        }
        Check.none("the other way round", t.reason(23, 0, 1, 1));
    }

    private static void wayInPareto() {
        expect(tableWith(6, 0, 0, 1, 1), 2, 0, 2);
        expect(tableWith(6, 0, 0, 1, 0), 2, 0, 2);
        expect(tableWith(6, 0, 0, 0, 1), 2, 1, 2);
        expectNone(tableWith(6, 0, 1, 1, 0), 2, 0, 1);
        expectNone(tableWith(6, 0, 0, 0, 0), 2, 0, 1);
    }

    private static void wayInPrior() {
        expect(tableWith(7, 0, 0, 1, 1), 2, 0, 2);
        expect(tableWith(7, 0, 1, 1, 0), 2, 0, 2);
        expect(tableWith(7, 0, 0, 0, 1), 2, 1, 2);
        expectNone(tableWith(7, 1, 0, 0, 1), 2, 0, 1);
        expectNone(tableWith(7, 0, 0, 0, 0), 2, 0, 1);
    }

    private static void wayInBothAndDual() {
        expect(tableWith(8, 0, 0, 1, 1), 2, 0, 2);
        expectNone(tableWith(8, 0, 0, 0, 1), 2, 0, 1);
        expectNone(tableWith(8, 0, 0, 1, 0), 2, 0, 1);
        expect(tableWith(9, 1, 0, 0, 0), 2, 0, 2);
        expectNone(tableWith(9, 0, 0, 1, 0), 2, 0, 1);
        PreferTable below = tableWith(6, 1, 1, 0, 1);
        below.term(9, 2, 0);
        expect(below, 3, 0, 3);
        PreferTable second = tableWith(6, 1, 1, 1, 0);
        second.term(9, 2, 0);
        second.term(8, 3, 3);
        second.term(7, 4, 0);
        expect(second, 3, 1, 3);
        expect(second, 4, 1, 4);
        expect(second, 5, 1, 5);
    }

    /** PARETO of BOTH of node 0 twice, and of that same BOTH. */
    private static void nodesThatComeTwice() {
        PreferTable t = Bounds.withRows(2);
        t.order(0, 0, 0, 0);
        t.term(8, 0, 0);
        t.term(6, 1, 1);
        t.term(7, 2, 1);
        expect(t, 1, 0, 2);
        expect(t, 2, 0, 3);
        expect(t, 3, 0, 4);
        t.term(9, 3, 0);
        t.term(9, 4, 0);
        t.term(8, 5, 0);
        expect(t, 5, 0, 6);
        expect(t, 6, 0, 7);
    }

    private static void notBetter() {
        PreferTable t = Bounds.tableOf(0, 4, 6, 7, 7);
        t.order(2, 0, 5, 0);
        t.term(9, 0, 0);
        expectNone(t, 0, 0, 1);
        expectNone(t, 0, 2, 0);
        expectNone(t, 0, 2, 3);
        expectNone(t, 0, 0, 0);
        expectNone(t, 1, 0, 2);
        expectNone(t, 1, 1, 0);
        expectNone(t, 1, 3, 2);
    }

    private static void anyOtherW() {
        PreferTable t = Bounds.withRows(2);
        t.order(0, 0, 0, 0);
        t.term(9, 0, 0);
        for (int w : Bounds.outside(1)) {
            Check.none("w = " + w, t.reason(0, 0, 1, w));
            Check.none("w = " + w + ", not BETTER", t.reason(0, 1, 0, w));
            Check.none("w = " + w + ", in DUAL", t.reason(1, 1, 0, w));
        }
        expect(t, 0, 0, 1);
    }

    private static void reasonOfNoSuchNode() {
        PreferTable t = Bounds.withRows(2);
        t.order(0, 0, 0, 0);
        for (int node : Bounds.outside(0)) {
            for (int w : new int[] {LEAST, -1, 0, 1, 2, GREATEST}) {
                Check.outside("reason(" + node + ", 0, 1, " + w + ")",
                    () -> t.reason(node, 0, 1, w));
            }
        }
    }

    private static void reasonOfNoSuchRow() {
        PreferTable t = Bounds.afterRows(120, 24);
        t.order(0, 0, 0, 0);
        for (int row : Bounds.outside(119)) {
            Check.outside("u = " + row, () -> t.reason(0, row, 119, 0));
            Check.outside("v = " + row, () -> t.reason(0, 96, row, 1));
            Check.outside("u = v = " + row + ", another w", () -> t.reason(0, row, row, 2));
        }
        Check.outside("u is gone", () -> t.reason(0, 95, 119, 0));
        Check.outside("v is gone", () -> t.reason(0, 96, 95, 0));
        Check.same("the first and the last", t.reason(0, 96, 119, 1), 1);
    }
}
