/** Promise 18: reason. */
public final class ReasonTest {
    public static void main(String[] args) {
        orders();
        pareto();
        prior();
        bothAndDual();
        dualWithinPrior();
        nodesThatComeTwice();
        wrongArguments();
        Check.end();
    }

    /** Nodes 0 LOW of column 0, 1 HIGH of column 1, 2 LOW of column 2. */
    private static PreferTable table() {
        PreferTable t = new PreferTable();
        t.order(0, 0, 0, 0);
        t.order(1, 1, 0, 0);
        t.order(0, 2, 0, 0);
        t.row(1, 1, 1, 0);
        t.row(2, 0, 1, 0);
        t.row(1, 0, 1, 0);
        t.row(1, 1, 2, 0);
        return t;
    }

    private static void expect(PreferTable t, int node, int u, int v, int decider, int passed) {
        String why = "of node " + node + ", rows " + u + ", " + v;
        Check.same("who decides " + why, t.reason(node, u, v, 0), decider);
        Check.same("the way " + why, t.reason(node, u, v, 1), passed);
        Check.same("w = 2 " + why, t.reason(node, u, v, 2), PreferTable.NONE);
        Check.same("w = -1 " + why, t.reason(node, u, v, -1), PreferTable.NONE);
    }

    private static void expectNone(PreferTable t, int node, int u, int v) {
        expect(t, node, u, v, PreferTable.NONE, PreferTable.NONE);
    }

    private static void orders() {
        PreferTable t = table();
        expect(t, 0, 0, 1, 0, 1);
        expect(t, 1, 0, 2, 1, 1);
        expectNone(t, 0, 1, 0);
        expectNone(t, 0, 0, 2);
        expectNone(t, 0, 0, 0);
        t.condition(0, 0, 77);
        expect(t, 0, 0, 1, 0, 1);
    }

    private static void pareto() {
        PreferTable t = table();
        t.term(6, 0, 1);
        t.term(6, 2, 3);
        expect(t, 3, 0, 1, 0, 2);
        expect(t, 3, 0, 2, 1, 2);
        expect(t, 4, 0, 3, 2, 2);
        expect(t, 4, 0, 1, 0, 3);
        expect(t, 4, 0, 2, 1, 3);
        expectNone(t, 4, 2, 3);
        expectNone(t, 4, 3, 0);
    }

    private static void prior() {
        PreferTable t = table();
        t.term(7, 0, 1);
        t.term(7, 3, 2);
        expect(t, 3, 0, 1, 0, 2);
        expect(t, 3, 0, 2, 1, 2);
        expect(t, 4, 0, 1, 0, 3);
        expect(t, 4, 0, 2, 1, 3);
        expect(t, 4, 0, 3, 2, 2);
        expectNone(t, 4, 1, 0);
    }

    private static void bothAndDual() {
        PreferTable t = table();
        t.term(8, 1, 0);
        t.term(9, 3, 0);
        t.term(9, 4, 0);
        expect(t, 3, 0, 1, 1, 2);
        expectNone(t, 3, 0, 2);
        expect(t, 4, 1, 0, 1, 3);
        expectNone(t, 4, 0, 1);
        expect(t, 5, 0, 1, 1, 4);
    }

    /** Below DUAL the rows are changed over, or PARETO would go to q where p says BETTER. */
    private static void dualWithinPrior() {
        PreferTable t = table();
        t.term(6, 0, 1);
        t.term(9, 3, 0);
        t.term(7, 2, 4);
        expect(t, 5, 1, 0, 0, 4);
        expect(t, 5, 2, 0, 1, 4);
        expect(t, 5, 0, 3, 2, 2);
    }

    private static void nodesThatComeTwice() {
        PreferTable t = table();
        t.term(6, 0, 0);
        t.term(8, 3, 3);
        t.term(7, 4, 4);
        expect(t, 5, 0, 1, 0, 4);
    }

    private static void wrongArguments() {
        PreferTable t = table();
        Check.outside("reason(3, ..)", () -> t.reason(3, 0, 1, 0));
        Check.outside("reason(-1, ..)", () -> t.reason(-1, 0, 1, 0));
        Check.outside("no such u", () -> t.reason(0, 4, 1, 0));
        Check.outside("no such v", () -> t.reason(0, 0, -1, 0));
        Check.outside("also for another w", () -> t.reason(0, 0, 4, 7));
        t.remove(1);
        Check.outside("a row that is gone", () -> t.reason(0, 0, 1, 0));
    }
}
