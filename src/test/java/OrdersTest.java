/** Promises 6 to 8, and what promise 12 (compare) says of orders. */
public final class OrdersTest {
    private static final int MIN = Integer.MIN_VALUE;
    private static final int MAX = Integer.MAX_VALUE;

    public static void main(String[] args) {
        wrongOrdersAreRefused();
        only24NodesAreMade();
        lowAndHigh();
        around();
        between();
        layers();
        wrongLayersAreRefused();
        graph();
        graphHasNoCircles();
        compareLooksAtItsArguments();
        Check.end();
    }

    /** What node 0 says of every two rows, a line of digits for each u. */
    private static String says(PreferTable t, int rows) {
        StringBuilder all = new StringBuilder();
        for (int u = 0; u < rows; u++) {
            all.append(u == 0 ? "" : " ");
            for (int v = 0; v < rows; v++) {
                all.append(t.compare(0, u, v));
            }
        }
        return all.toString();
    }

    private static void wrongOrdersAreRefused() {
        PreferTable t = new PreferTable();
        Check.badArgument("order(-1, ..)", () -> t.order(-1, 0, 0, 0));
        Check.badArgument("order(6, ..)", () -> t.order(6, 0, 0, 0));
        Check.badArgument("order(0, -1, ..)", () -> t.order(0, -1, 0, 0));
        Check.badArgument("order(0, 4, ..)", () -> t.order(0, 4, 0, 0));
        Check.badArgument("order(3, 0, 5, 4)", () -> t.order(3, 0, 5, 4));
        Check.same("a above b for another kind", t.order(2, 0, 5, 4), 0);
        Check.same("order(4, 3, 5, 4)", t.order(4, 3, 5, 4), 1);
        Check.same("a the same as b", t.order(3, 0, 5, 5), 2);
    }

    private static void only24NodesAreMade() {
        PreferTable t = new PreferTable();
        for (int i = 0; i < 24; i++) {
            Check.same("order", t.order(i % 6, i % 4, 1, 2), i);
        }
        Check.badState("order 25", () -> t.order(0, 0, 0, 0));
        Check.badArgument("a wrong order comes first", () -> t.order(3, 0, 2, 1));
        Check.badState("term 25", () -> t.term(9, 0, 0));
    }

    private static void lowAndHigh() {
        PreferTable low = Bounds.tableOf(1, 5, 5, MIN, MAX);
        low.order(0, 1, 0, 0);
        Check.same("LOW", says(low, 4), "3321 3321 1131 2223");
        PreferTable high = Bounds.tableOf(3, 5, 5, MIN, MAX);
        high.order(1, 3, 0, 0);
        Check.same("HIGH", says(high, 4), "3312 3312 2232 1113");
    }

    private static void around() {
        PreferTable t = Bounds.tableOf(0, 8, 12, 10, 8, 13);
        t.order(2, 0, 10, 99);
        Check.same("AROUND 10", says(t, 5), "30231 03201 11311 30231 22223");
        PreferTable far = Bounds.tableOf(2, MIN, MAX, 0);
        far.order(2, 2, MAX, 0);
        Check.same("AROUND the greatest", says(far, 3), "322 131 123");
        PreferTable even = Bounds.tableOf(2, MIN, MAX);
        even.order(2, 2, -1, 0);
        Check.same("AROUND -1: one farther", says(even, 2), "31 23");
    }

    private static void between() {
        PreferTable t = Bounds.tableOf(2, 3, 6, 4, 1, 8, 9);
        t.order(3, 2, 3, 6);
        Check.same("BETWEEN 3, 6", says(t, 6), "300111 030111 003111 222301 222031 222223");
        PreferTable far = Bounds.tableOf(0, MIN, MAX, -5);
        far.order(3, 0, -10, -1);
        Check.same("BETWEEN -10, -1", says(far, 3), "312 232 113");
        PreferTable all = Bounds.tableOf(0, MIN, MAX, 0);
        all.order(3, 0, MIN, MAX);
        Check.same("BETWEEN all", says(all, 3), "300 030 003");
    }

    private static void layers() {
        PreferTable t = Bounds.tableOf(1, 0, 9, 4, 11, -1, 4);
        t.order(4, 1, 0, 0);
        Check.same("no layers yet", says(t, 6), "300000 030000 003003 000300 000030 003003");
        Check.yes("layer(0, 0, 5)", t.layer(0, 0, 5));
        Check.yes("layer(0, 9, 0)", t.layer(0, 9, 0));
        Check.yes("layer(0, 4, 5)", t.layer(0, 4, 5));
        Check.same("0 and 4 below 9", says(t, 6), "320110 131111 023113 222302 222032 023113");
        Check.yes("layer(0, 9, -1)", t.layer(0, 9, -1));
        Check.same("9 has none again", says(t, 6), "310110 232002 013113 202302 202032 013113");
        t.order(4, 1, 0, 0);
        Check.same("another node has layers of its own", t.compare(1, 0, 1), 0);
    }

    private static void wrongLayersAreRefused() {
        PreferTable t = Bounds.tableOf(0, 0, 1);
        t.order(4, 0, 0, 0);
        t.order(5, 0, 0, 0);
        t.order(0, 0, 0, 0);
        t.term(9, 0, 0);
        t.layer(0, 0, 3);
        Check.no("layer(-1, ..)", t.layer(-1, 0, 0));
        Check.no("layer(4, ..)", t.layer(4, 0, 0));
        Check.no("layer of GRAPH", t.layer(1, 0, 0));
        Check.no("layer of LOW", t.layer(2, 0, 0));
        Check.no("layer of DUAL", t.layer(3, 0, 0));
        Check.no("layer(0, -1, 0)", t.layer(0, -1, 0));
        Check.no("layer(0, 10, 0)", t.layer(0, 10, 0));
        Check.no("layer(0, 0, -2)", t.layer(0, 0, -2));
        Check.no("layer(0, 0, 6)", t.layer(0, 0, 6));
        t.layer(0, 1, 4);
        Check.same("0 has its layer still", t.compare(0, 0, 1), 1);
    }

    private static void graph() {
        PreferTable t = Bounds.tableOf(3, 0, 1, 2, 9, 10, 2);
        t.order(5, 3, 0, 0);
        Check.same("no edges yet", says(t, 6), "300000 030000 003003 000300 000030 003003");
        Check.yes("edge(0, 1, 2)", t.edge(0, 1, 2));
        Check.yes("edge(0, 9, 0)", t.edge(0, 9, 0));
        Check.same("two apart", says(t, 6), "300200 031001 023003 100300 000030 023003");
        Check.yes("edge(0, 0, 1)", t.edge(0, 0, 1));
        Check.same("joined to one way", says(t, 6), "311201 231201 223203 111301 000030 223203");
        Check.yes("an edge beside a way", t.edge(0, 9, 2));
        Check.no("edge(0, 9, 2) again", t.edge(0, 9, 2));
        Check.no("edge(0, 0, 1) again", t.edge(0, 0, 1));
        Check.no("edge(0, 9, 0), the first of two from 9, again", t.edge(0, 9, 0));
        t.order(5, 3, 0, 0);
        Check.same("another node has edges of its own", t.compare(1, 0, 1), 0);
    }

    private static void graphHasNoCircles() {
        PreferTable t = Bounds.tableOf(0, 0, 1);
        t.order(5, 0, 0, 0);
        t.order(4, 0, 0, 0);
        t.term(9, 0, 0);
        for (int v = 0; v < 9; v++) {
            t.edge(0, v, v + 1);
        }
        Check.badState("edge(0, 9, 0)", () -> t.edge(0, 9, 0));
        Check.badState("edge(0, 1, 0)", () -> t.edge(0, 1, 0));
        Check.badState("edge(0, 4, 4)", () -> t.edge(0, 4, 4));
        Check.yes("edge(0, 0, 9)", t.edge(0, 0, 9));
        Check.badArgument("edge of LAYERS", () -> t.edge(1, 0, 1));
        Check.badArgument("edge of DUAL", () -> t.edge(2, 0, 1));
        Check.badArgument("edge(3, ..)", () -> t.edge(3, 0, 1));
        Check.badArgument("edge(-1, ..)", () -> t.edge(-1, 0, 1));
        Check.badArgument("edge(0, 10, 0)", () -> t.edge(0, 10, 0));
        Check.badArgument("edge(0, 0, 10)", () -> t.edge(0, 0, 10));
        Check.badArgument("edge(0, -1, 0)", () -> t.edge(0, -1, 0));
        Check.badArgument("edge(0, 0, -1)", () -> t.edge(0, 0, -1));
        Check.badArgument("edge(0, 10, 10)", () -> t.edge(0, 10, 10));
        Check.same("0 is better than 1 still", t.compare(0, 0, 1), 1);
    }

    private static void compareLooksAtItsArguments() {
        PreferTable t = Bounds.tableOf(0, 1, 2);
        t.order(0, 0, 0, 0);
        Check.outside("compare(1, 0, 1)", () -> t.compare(1, 0, 1));
        Check.outside("compare(-1, 0, 1)", () -> t.compare(-1, 0, 1));
        Check.outside("compare(0, 2, 1)", () -> t.compare(0, 2, 1));
        Check.outside("compare(0, 0, -1)", () -> t.compare(0, 0, -1));
        t.condition(0, 0, 77);
        Check.same("conditions do not count", t.compare(0, 0, 1), 1);
        t.remove(0);
        Check.outside("a row that is gone", () -> t.compare(0, 0, 1));
        Check.same("a row and itself", t.compare(0, 1, 1), 3);
    }
}
