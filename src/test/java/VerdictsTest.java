import java.util.List;
import java.util.Set;
import java.util.TreeSet;

/** What nodes say of two rows: a test for each such sentence of 'Terms'. */
public final class VerdictsTest {
    private static final int LOW = 0;
    private static final int AROUND = 2;
    private static final int BETWEEN = 3;
    private static final int LAYERS = 4;
    private static final int GRAPH = 5;
    private static final int PARETO = 6;
    private static final int PRIOR = 7;
    private static final int BOTH = 8;
    private static final int DUAL = 9;
    private static final int NEITHER = 0;
    private static final int BETTER = 1;
    private static final int WORSE = 2;
    private static final int SAME = 3;

    private static final int SAMPLE_NODES = 10;
    private static final int SAMPLE_ROWS = 7;

    // The values of the rows of tableOfValues(); the first and the last are not 0 .. 9.
    private static final int FIRST_VALUE = -1;
    private static final int LAST_VALUE = 10;

    /** Whether a verdict is due, by what p and q say. */
    private interface Rule {
        boolean holds(int p, int q);
    }

    /** What is due of two values that are not the same. */
    private interface Verdict {
        int of(int x, int y);
    }

    public static void main(String[] args) {
        Check.sentence("Each compares two rows u, v, and says BETTER (u), WORSE, SAME or NEITHER",
            VerdictsTest::everyNodeSaysOneOfFour);
        Check.sentence("ORDERS look at one column", VerdictsTest::oneColumn);
        Check.sentence("of u's value x and v's value y", VerdictsTest::valuesOfUAndV);
        Check.sentence("BETTER if u's is less, WORSE if v's is, else NEITHER",
            VerdictsTest::distancesFromOne);
        Check.sentence("3 BETWEEN a, b: likewise", VerdictsTest::distancesFromTwo);
        Check.sentence("WORSE the other way round; else NEITHER", VerdictsTest::layers);
        Check.sentence("each from a better one to a worse one", VerdictsTest::oneEdge);
        Check.sentence("WORSE if from y to x, else NEITHER", VerdictsTest::waysAlongEdges);
        terms();
        Check.sentence("u BEATS v in a node that says BETTER of u, v", VerdictsTest::beating);
        Check.end();
    }

    private static void terms() {
        Check.sentence("6 PARETO: SAME if both say it", VerdictsTest::paretoSame);
        Check.sentence("BETTER if one says BETTER and the other one BETTER or SAME",
            VerdictsTest::paretoBetter);
        Check.sentence("WORSE likewise; else NEITHER", VerdictsTest::paretoWorseAndNeither);
        Check.sentence("7 PRIOR: what p says, but if that is SAME what q says",
            VerdictsTest::prior);
        Check.sentence("8 BOTH: SAME, BETTER or WORSE if both say just that; else NEITHER",
            VerdictsTest::both);
        Check.sentence("9 DUAL, of p alone: BETTER and WORSE changed over", VerdictsTest::dual);
    }

    /** Nodes 0 to 5, an order of each kind, and 6 to 9, a term of each kind; seven rows. */
    private static PreferTable sample() {
        PreferTable t = new PreferTable();
        t.order(0, 0, 0, 0);
        t.order(1, 1, 0, 0);
        t.order(2, 2, 2, 0);
        t.order(3, 3, 1, 2);
        t.order(4, 2, 0, 0);
        t.order(5, 3, 0, 0);
        t.layer(4, 1, 3);
        t.layer(4, 3, 0);
        t.edge(5, 2, 0);
        t.edge(5, 0, 3);
        t.term(PARETO, 0, 1);
        t.term(PRIOR, 4, 5);
        t.term(BOTH, 2, 3);
        t.term(DUAL, 6, 0);
        t.row(1, 1, 1, 1);
        t.row(1, 2, 1, 2);
        t.row(0, 1, 3, 1);
        t.row(2, 2, 3, 0);
        t.row(1, 1, 2, 3);
        t.row(0, 2, 0, 3);
        t.row(1, 1, 1, 1);
        return t;
    }

    private static void everyNodeSaysOneOfFour() {
        int[] changedOver = {NEITHER, WORSE, BETTER, SAME};
        for (int node = 0; node < SAMPLE_NODES; node++) {
            PreferTable t = sample();
            for (int u = 0; u < SAMPLE_ROWS; u++) {
                for (int v = 0; v < SAMPLE_ROWS; v++) {
                    int verdict = t.compare(node, u, v);
                    Check.yes("one of the four", verdict >= NEITHER && verdict <= SAME);
                    Check.same("node " + node + " of rows " + v + ", " + u, t.compare(node, v, u),
                        changedOver[verdict]);
                }
                Check.same("a row and itself", t.compare(node, u, u), SAME);
            }
            Check.same("rows that have the same values", t.compare(node, 0, 6), SAME);
        }
    }

    /** Value 2 is better than 7 in each of these orders but HIGH, whatever stands elsewhere. */
    private static void oneColumn() {
        int[] ends = {Bounds.LEAST, 2, 7, Bounds.GREATEST};
        for (int kind = LOW; kind <= GRAPH; kind++) {
            for (int column = 0; column < 4; column++) {
                PreferTable t = Bounds.tableOf(column, 2, 7, 2);
                t.order(kind, column, 2, 3);
                t.layer(0, 2, 0);
                if (kind == GRAPH) {
                    t.edge(0, 2, 7);
                }
                int due = kind == 1 ? WORSE : BETTER;
                for (int other = 1; other < 4; other++) {
                    for (int end : ends) {
                        t.change(0, (column + other) % 4, end);
                        t.change(1, (column + other) % 4, -1 - end);
                        Check.same("kind " + kind, t.compare(0, 0, 1), due);
                        Check.same("kind " + kind + ", SAME", t.compare(0, 0, 2), SAME);
                    }
                }
                t.change(1, column, 2);
                Check.same("this column has changed", t.compare(0, 0, 1), SAME);
            }
        }
    }

    private static void valuesOfUAndV() {
        PreferTable t = Bounds.tableOf(2, 5, 8);
        t.order(LOW, 2, 0, 0);
        Check.same("u has 5, v has 8", t.compare(0, 0, 1), BETTER);
        Check.same("u has 8, v has 5", t.compare(0, 1, 0), WORSE);
        t.change(0, 2, 9);
        Check.same("u has 9, v has 8", t.compare(0, 0, 1), WORSE);
        t.change(1, 2, 9);
        Check.same("u has 9, v has 9", t.compare(0, 0, 1), SAME);
    }

    /** Node 0 is an order of column 1; row i has the value FIRST_VALUE + i there. */
    private static PreferTable tableOfValues(int kind, int a, int b) {
        PreferTable t = new PreferTable();
        t.order(kind, 1, a, b);
        for (int v = FIRST_VALUE; v <= LAST_VALUE; v++) {
            t.row(0, v, 0, 0);
        }
        return t;
    }

    private static void expectOfAll(PreferTable t, Verdict due) {
        for (int x = FIRST_VALUE; x <= LAST_VALUE; x++) {
            for (int y = FIRST_VALUE; y <= LAST_VALUE; y++) {
                int got = t.compare(0, x - FIRST_VALUE, y - FIRST_VALUE);
                Check.same("of " + x + ", " + y, got, x == y ? SAME : due.of(x, y));
            }
        }
    }

    /** By ranks, of which the lesser one is better, and two that are the same are neither. */
    private static int byRank(int ofX, int ofY) {
        return ofX < ofY ? BETTER : ofX > ofY ? WORSE : NEITHER;
    }

    private static void distancesFromOne() {
        for (int a = -2; a <= 11; a++) {
            int middle = a;
            expectOfAll(tableOfValues(AROUND, a, 0),
                (x, y) -> byRank(Math.abs(x - middle), Math.abs(y - middle)));
        }
    }

    private static void distancesFromTwo() {
        for (int a = -2; a <= 11; a++) {
            for (int b = a; b <= 11; b++) {
                int from = a;
                int to = b;
                expectOfAll(tableOfValues(BETWEEN, a, b),
                    (x, y) -> byRank(outside(x, from, to), outside(y, from, to)));
            }
        }
    }

    private static int outside(int x, int from, int to) {
        return Math.max(0, Math.max(from - x, x - to));
    }

    private static void layers() {
        // By value; a value without a layer comes after all that have one.
        int none = 6;
        int[] layerOf = {2, none, 0, 5, 2, 0, 1, none, 3, 4};
        PreferTable t = tableOfValues(LAYERS, 0, 0);
        for (int v = 0; v < 10; v++) {
            Check.yes("layer", t.layer(0, v, layerOf[v] == none ? -1 : layerOf[v]));
        }
        expectOfAll(t, (x, y) -> byRank(
            x < 0 || x > 9 ? none : layerOf[x], y < 0 || y > 9 ? none : layerOf[y]));
    }

    private static void oneEdge() {
        for (int better = 0; better < 10; better++) {
            int worse = (better + 7) % 10;
            PreferTable t = Bounds.tableOf(0, better, worse, (better + 1) % 10);
            t.order(GRAPH, 0, 0, 0);
            Check.yes("edge(0, " + better + ", " + worse + ")", t.edge(0, better, worse));
            Check.same("the better one", t.compare(0, 0, 1), BETTER);
            Check.same("the worse one", t.compare(0, 1, 0), WORSE);
            Check.same("the better one and a third", t.compare(0, 0, 2), NEITHER);
            Check.same("a third and the worse one", t.compare(0, 2, 1), NEITHER);
        }
    }

    private static void waysAlongEdges() {
        int[][] edges = {{0, 1}, {1, 2}, {0, 3}, {3, 4}, {2, 5}, {4, 5}, {6, 7}, {8, 5}};
        List<Set<Integer>> reached = List.of(Set.of(1, 2, 3, 4, 5), Set.of(2, 5), Set.of(5),
            Set.of(4, 5), Set.of(5), Set.of(), Set.of(7), Set.of(), Set.of(5), Set.of());
        PreferTable t = tableOfValues(GRAPH, 0, 0);
        for (int[] edge : edges) {
            Check.yes("edge", t.edge(0, edge[0], edge[1]));
        }
        expectOfAll(t, (x, y) -> {
            if (x < 0 || x > 9 || y < 0 || y > 9) {
                return NEITHER;
            }
            return reached.get(x).contains(y) ? BETTER
                : reached.get(y).contains(x) ? WORSE : NEITHER;
        });
    }

    /** A term of each two nodes says the verdict just where the rule holds, whatever the rows. */
    private static void saysJustWhere(int kind, int verdict, Rule rule) {
        Set<String> met = new TreeSet<>();
        for (int p = 0; p < SAMPLE_NODES; p++) {
            for (int q = 0; q < SAMPLE_NODES; q++) {
                PreferTable t = sample();
                int term = t.term(kind, p, q);
                for (int pair = 0; pair < SAMPLE_ROWS * SAMPLE_ROWS; pair++) {
                    int u = pair / SAMPLE_ROWS;
                    int v = pair % SAMPLE_ROWS;
                    int first = t.compare(p, u, v);
                    int second = t.compare(q, u, v);
                    met.add(first + " " + second);
                    String text = "kind " + kind + " where p says " + first + ", q " + second
                        + ": whether it says " + verdict;
                    boolean got = t.compare(term, u, v) == verdict;
                    Check.same(text, Boolean.toString(got),
                        Boolean.toString(rule.holds(first, second)));
                }
            }
        }
        Check.same("how many pairs of verdicts were met", met.size(), 16);
    }

    private static void paretoSame() {
        saysJustWhere(PARETO, SAME, (p, q) -> p == SAME && q == SAME);
    }

    private static boolean oneSays(int verdict, int p, int q) {
        return p == verdict && (q == verdict || q == SAME)
            || q == verdict && (p == verdict || p == SAME);
    }

    private static void paretoBetter() {
        saysJustWhere(PARETO, BETTER, (p, q) -> oneSays(BETTER, p, q));
    }

    private static void paretoWorseAndNeither() {
        saysJustWhere(PARETO, WORSE, (p, q) -> oneSays(WORSE, p, q));
        saysJustWhere(PARETO, NEITHER, (p, q) -> !(p == SAME && q == SAME)
            && !oneSays(BETTER, p, q) && !oneSays(WORSE, p, q));
    }

    private static void prior() {
        for (int verdict = NEITHER; verdict <= SAME; verdict++) {
            int due = verdict;
            saysJustWhere(PRIOR, verdict, (p, q) -> p == SAME ? q == due : p == due);
        }
    }

    private static void both() {
        for (int verdict = BETTER; verdict <= SAME; verdict++) {
            int due = verdict;
            saysJustWhere(BOTH, verdict, (p, q) -> p == due && q == due);
        }
        saysJustWhere(BOTH, NEITHER, (p, q) -> p != q || p == NEITHER);
    }

    private static void dual() {
        saysJustWhere(DUAL, BETTER, (p, q) -> p == WORSE);
        saysJustWhere(DUAL, WORSE, (p, q) -> p == BETTER);
        saysJustWhere(DUAL, SAME, (p, q) -> p == SAME);
        saysJustWhere(DUAL, NEITHER, (p, q) -> p == NEITHER);
    }

    /** Only rows of which no other one is said to be BETTER are BEST, and have the LEVEL 1. */
    private static void beating() {
        for (int node = 0; node < SAMPLE_NODES; node++) {
            PreferTable t = sample();
            StringBuilder unbeaten = new StringBuilder();
            for (int v = 0; v < SAMPLE_ROWS; v++) {
                boolean isBeaten = false;
                for (int u = 0; u < SAMPLE_ROWS; u++) {
                    isBeaten |= t.compare(node, u, v) == BETTER;
                }
                if (!isBeaten) {
                    unbeaten.append(unbeaten.length() == 0 ? "" : " ").append(v);
                }
                Check.same("LEVEL 1", Boolean.toString(t.level(node, v) == 1),
                    Boolean.toString(!isBeaten));
            }
            t.best(node);
            Check.same("BEST in node " + node, Check.answer(t), unbeaten.toString());
        }
    }
}
