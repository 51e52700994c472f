import java.util.List;
import java.util.function.Supplier;
import java.util.function.ToIntFunction;

/** REDUCING, and promises 22 and 23, at their bounds: a test for each sentence. */
public final class FormBoundsTest {
    private static final int LEAST = Bounds.LEAST;
    private static final int GREATEST = Bounds.GREATEST;
    private static final int PARETO = 6;
    private static final int PRIOR = 7;
    private static final int BOTH = 8;
    private static final int DUAL = 9;

    // The FORMs of the orders of table().
    private static final List<String> FORMS =
        List.of("0 0", "1 1", "2 2 5", "3 3 1 2", "4 0 4", "5 1 5");

    // The FORMs of the large nodes of tableOfLarge().
    private static final String BETWEEN_ENDS = "3 0 " + LEAST + " " + GREATEST;
    private static final String PAIR = BETWEEN_ENDS + " 3 3 -1 1";
    private static final String FIVE = "8 6 6 " + PAIR + " " + BETWEEN_ENDS + " 6 " + PAIR;
    private static final String FOUR = "8 6 " + PAIR + " 8 " + PAIR;
    private static final String NINE = "6 " + FIVE + " " + FOUR;
    private static final String EIGHTEEN = "8 " + NINE + " 6 " + FOUR + " " + FIVE;

    public static void main(String[] args) {
        rules();
        Check.sentence("the nodes that it is made of are reduced first",
            FormBoundsTest::partsAreReducedFirst);
        Check.sentence("the first of these that fits is taken, until none does",
            FormBoundsTest::untilNoneFits);
        Check.sentence("Nodes are ALIKE if they have the same kind, and the same column",
            FormBoundsTest::alikeByKindAndColumn);
        Check.sentence("(and a, b, if they count, or the same node of kind 4 or 5)",
            FormBoundsTest::alikeByWhatCounts);
        Check.sentence("or are made of nodes that are ALIKE, one by one",
            FormBoundsTest::alikeByParts);
        Check.sentence("The FORM of a node is: its kind; then, for an order, its .. column, and "
            + "for the kinds 2 and 3 a (and b), for 4 and 5 the number of its node",
            FormBoundsTest::formsOfOrders);
        Check.sentence("for a term the FORMs of what it is made of", FormBoundsTest::formsOfTerms);
        Check.sentence("The FORM of a node (the shortest and the longest)",
            FormBoundsTest::shortestAndLongestForm);
        Check.sentence("REDUCING a node (at the far end of a large one)",
            FormBoundsTest::reducedAtTheFarEnd);
        Check.sentence("22: The node is REDUCED .. how many numbers its FORM has then",
            FormBoundsTest::howManyNumbers);
        Check.sentence("22: (it stays as it is)", FormBoundsTest::nodeStaysAsItIs);
        Check.sentence("22: IndexOutOfBoundsException if there is no such node",
            FormBoundsTest::reduceNoSuchNode);
        Check.sentence("23: Number k of the FORM that reduce() made last",
            FormBoundsTest::formMadeLast);
        Check.sentence("23: IndexOutOfBoundsException if there is none such",
            FormBoundsTest::noNumberSuch);
        Check.sentence("23: IndexOutOfBoundsException if there is none such (nothing reduced yet)",
            FormBoundsTest::nothingReducedYet);
        Check.end();
    }

    private static void rules() {
        Check.sentence("DUAL of DUAL p is p", FormBoundsTest::dualOfDual);
        Check.sentence("DUAL of LOW is HIGH (of the same column), DUAL of HIGH is LOW",
            FormBoundsTest::dualOfLowAndHigh);
        Check.sentence("PARETO, PRIOR or BOTH of p, q that are ALIKE is p",
            FormBoundsTest::termOfAlike);
        Check.sentence("PRIOR of p, q is p if all columns of q are columns of p",
            FormBoundsTest::priorOfColumnsInside);
        Check.sentence("PARETO or BOTH of DUAL p, DUAL q is the DUAL of PARETO or BOTH of p, q",
            FormBoundsTest::dualsPulledOut);
        Check.sentence("(which is reduced, too)", FormBoundsTest::pulledOutOfReducedParts);
        Check.sentence("The COLUMNS of a node are its own", FormBoundsTest::columnOfAnOrder);
        Check.sentence("or all those of the nodes that it is made of",
            FormBoundsTest::columnsOfTerms);
    }

    /** Nodes 0 LOW 0, 1 HIGH 1, 2 AROUND 5 on 2, 3 BETWEEN 1, 2 on 3, 4 LAYERS 0, 5 GRAPH 1. */
    private static PreferTable table() {
        PreferTable t = new PreferTable();
        t.order(0, 0, 0, 0);
        t.order(1, 1, 0, 0);
        t.order(2, 2, 5, 0);
        t.order(3, 3, 1, 2);
        t.order(4, 0, 0, 0);
        t.order(5, 1, 0, 0);
        return t;
    }

    private static void expect(PreferTable t, int node, String due) {
        Check.same("the FORM", Check.form(t, node), due);
    }

    private static void dualOfDual() {
        for (int node = 2; node < 6; node++) {
            PreferTable t = table();
            int at = node;
            for (int duals = 1; duals <= 18; duals++) {
                at = t.term(DUAL, at, 0);
                expect(t, at, (duals % 2 == 1 ? "9 " : "") + FORMS.get(node));
            }
        }
        PreferTable t = table();
        int prior = t.term(PRIOR, 2, 3);
        int once = t.term(DUAL, prior, 0);
        expect(t, once, "9 7 2 2 5 3 3 1 2");
        expect(t, t.term(DUAL, once, 0), "7 2 2 5 3 3 1 2");
    }

    private static void dualOfLowAndHigh() {
        for (int column = 0; column < 4; column++) {
            PreferTable t = new PreferTable();
            t.order(0, column, 0, 0);
            t.order(1, column, LEAST, GREATEST);
            expect(t, t.term(DUAL, 0, 0), "1 " + column);
            expect(t, t.term(DUAL, 1, 0), "0 " + column);
            expect(t, t.term(DUAL, 2, 0), "0 " + column);
            expect(t, t.term(DUAL, 3, 0), "1 " + column);
        }
    }

    private static void termOfAlike() {
        for (int kind = PARETO; kind <= BOTH; kind++) {
            PreferTable t = table();
            for (int node = 0; node < 6; node++) {
                expect(t, t.term(kind, node, node), FORMS.get(node));
            }
            int pareto = t.term(PARETO, 0, 1);
            expect(t, t.term(kind, pareto, pareto), "6 0 0 1 1");
            int dual = t.term(DUAL, 2, 0);
            expect(t, t.term(kind, dual, dual), "9 2 2 5");
        }
    }

    private static void priorOfColumnsInside() {
        PreferTable t = table();
        int wide = t.term(PARETO, 0, 1);
        expect(t, t.term(PRIOR, 0, 4), "0 0");
        expect(t, t.term(PRIOR, 4, 0), "4 0 4");
        expect(t, t.term(PRIOR, 0, 1), "7 0 0 1 1");
        expect(t, t.term(PRIOR, wide, 4), "6 0 0 1 1");
        expect(t, t.term(PRIOR, wide, 5), "6 0 0 1 1");
        expect(t, t.term(PRIOR, wide, t.term(BOTH, 5, 4)), "6 0 0 1 1");
        expect(t, t.term(PRIOR, wide, 2), "7 6 0 0 1 1 2 2 5");
        expect(t, t.term(PRIOR, 0, wide), "7 0 0 6 0 0 1 1");
        expect(t, t.term(PRIOR, wide, t.term(BOTH, 0, 2)), "7 6 0 0 1 1 8 0 0 2 2 5");
        expect(t, t.term(PARETO, 0, 4), "6 0 0 4 0 4");
        expect(t, t.term(BOTH, 0, 4), "8 0 0 4 0 4");
        expect(t, t.term(PRIOR, 1, 3), "7 1 1 3 3 1 2");
    }

    private static void columnOfAnOrder() {
        for (int own = 0; own < 4; own++) {
            for (int other = 0; other < 4; other++) {
                PreferTable t = new PreferTable();
                t.order(2, own, 1, 0);
                t.order(1, other, 0, 0);
                t.term(PRIOR, 0, 1);
                String p = "2 " + own + " 1";
                expect(t, 2, own == other ? p : "7 " + p + " 1 " + other);
            }
        }
    }

    private static void columnsOfTerms() {
        PreferTable t = table();
        int all = t.term(BOTH, t.term(PRIOR, 0, 1), t.term(PARETO, 2, 3));
        String form = "8 7 0 0 1 1 6 2 2 5 3 3 1 2";
        for (int node = 0; node < 6; node++) {
            expect(t, t.term(PRIOR, all, node), form);
        }
        expect(t, t.term(PRIOR, all, all), form);
        int three = t.term(PARETO, t.term(DUAL, 6, 0), 3);
        expect(t, t.term(PRIOR, three, 2), "7 6 9 7 0 0 1 1 3 3 1 2 2 2 5");
        expect(t, t.term(PRIOR, three, 5), "6 9 7 0 0 1 1 3 3 1 2");
    }

    private static void dualsPulledOut() {
        for (int kind = PARETO; kind <= BOTH; kind += 2) {
            PreferTable t = table();
            int p = t.term(DUAL, 2, 0);
            int q = t.term(DUAL, 3, 0);
            expect(t, t.term(kind, p, q), "9 " + kind + " 2 2 5 3 3 1 2");
            expect(t, t.term(kind, q, p), "9 " + kind + " 3 3 1 2 2 2 5");
            expect(t, t.term(kind, p, 3), kind + " 9 2 2 5 3 3 1 2");
            expect(t, t.term(kind, 2, q), kind + " 2 2 5 9 3 3 1 2");
            expect(t, t.term(kind, p, t.term(DUAL, 0, 0)), kind + " 9 2 2 5 1 0");
            expect(t, t.term(DUAL, t.term(kind, p, q), 0), kind + " 2 2 5 3 3 1 2");
        }
        PreferTable t = table();
        int p = t.term(DUAL, 2, 0);
        expect(t, t.term(PRIOR, p, t.term(DUAL, 3, 0)), "7 9 2 2 5 9 3 3 1 2");
    }

    /** Parts that are DUALs only when they have been reduced, of nodes that become shorter. */
    private static void pulledOutOfReducedParts() {
        for (int kind = PARETO; kind <= BOTH; kind += 2) {
            PreferTable t = table();
            int p = t.term(DUAL, t.term(PARETO, 2, 2), 0);
            int q = t.term(PARETO, t.term(DUAL, 3, 0), t.term(DUAL, 4, 0));
            expect(t, t.term(kind, p, q), "9 " + kind + " 2 2 5 6 3 3 1 2 4 0 4");
            int r = t.term(DUAL, t.term(BOTH, t.term(DUAL, 0, 0), t.term(PRIOR, 5, 1)), 0);
            expect(t, t.term(kind, r, p), "9 " + kind + " 8 1 0 5 1 5 2 2 5");
            expect(t, t.term(DUAL, t.term(kind, r, p), 0), kind + " 8 1 0 5 1 5 2 2 5");
        }
    }

    private static void partsAreReducedFirst() {
        PreferTable t = table();
        int low = t.term(DUAL, t.order(1, 0, 0, 0), 0);
        expect(t, t.term(PARETO, 0, low), "0 0");
        expect(t, t.term(BOTH, low, 0), "0 0");
        int once = t.term(PARETO, 2, 2);
        expect(t, t.term(DUAL, t.term(DUAL, once, 0), 0), "2 2 5");
        expect(t, t.term(DUAL, t.term(BOTH, 0, 0), 0), "1 0");
        int dualOfOnce = t.term(DUAL, once, 0);
        int dualOfTwo = t.term(DUAL, 3, 0);
        expect(t, t.term(BOTH, dualOfOnce, dualOfTwo), "9 8 2 2 5 3 3 1 2");
        expect(t, t.term(PARETO, t.term(PRIOR, 4, 0), 4), "4 0 4");
    }

    /** What one rule makes can fit another one, in the node itself or in the one above it. */
    private static void untilNoneFits() {
        PreferTable t = table();
        int p = t.term(DUAL, 2, 0);
        int q = t.term(DUAL, 3, 0);
        int pareto = t.term(PARETO, p, q);
        int r = t.term(DUAL, 4, 0);
        expect(t, t.term(BOTH, pareto, r), "9 8 6 2 2 5 3 3 1 2 4 0 4");
        int twice = t.term(BOTH, t.term(PARETO, pareto, r), t.term(DUAL, 5, 0));
        expect(t, twice, "9 8 6 6 2 2 5 3 3 1 2 4 0 4 5 1 5");
        expect(t, t.term(DUAL, twice, 0), "8 6 6 2 2 5 3 3 1 2 4 0 4 5 1 5");
        int plain = t.term(PARETO, 2, 3);
        expect(t, t.term(PRIOR, t.term(DUAL, plain, 0), pareto), "9 6 2 2 5 3 3 1 2");
        expect(t, t.term(BOTH, t.term(DUAL, plain, 0), pareto), "9 6 2 2 5 3 3 1 2");
    }

    private static void alikeByKindAndColumn() {
        PreferTable t = table();
        expect(t, t.term(PARETO, 0, t.order(0, 0, 7, 8)), "0 0");
        expect(t, t.term(PARETO, 1, t.order(1, 1, LEAST, GREATEST)), "1 1");
        expect(t, t.term(PARETO, 0, t.order(0, 1, 0, 0)), "6 0 0 0 1");
        expect(t, t.term(PARETO, 0, t.order(1, 0, 0, 0)), "6 0 0 1 0");
        expect(t, t.term(BOTH, 2, t.order(2, 3, 5, 0)), "8 2 2 5 2 3 5");
        expect(t, t.term(BOTH, 2, t.order(3, 2, 5, 5)), "8 2 2 5 3 2 5 5");
        int graph = t.order(5, 0, 0, 0);
        expect(t, t.term(BOTH, 4, graph), "8 4 0 4 5 0 " + graph);
    }

    private static void alikeByWhatCounts() {
        PreferTable t = table();
        expect(t, t.term(PARETO, 2, t.order(2, 2, 5, GREATEST)), "2 2 5");
        expect(t, t.term(PARETO, 2, t.order(2, 2, 6, 0)), "6 2 2 5 2 2 6");
        expect(t, t.term(PARETO, 3, t.order(3, 3, 1, 2)), "3 3 1 2");
        expect(t, t.term(PARETO, 3, t.order(3, 3, 1, 3)), "6 3 3 1 2 3 3 1 3");
        expect(t, t.term(PARETO, 3, t.order(3, 3, 0, 2)), "6 3 3 1 2 3 3 0 2");
        expect(t, t.term(PARETO, 4, 4), "4 0 4");
        expect(t, t.term(BOTH, 5, 5), "5 1 5");
        int layers = t.order(4, 0, 0, 0);
        expect(t, t.term(PARETO, 4, layers), "6 4 0 4 4 0 " + layers);
        int graph = t.order(5, 1, 0, 0);
        expect(t, t.term(BOTH, 5, graph), "8 5 1 5 5 1 " + graph);
    }

    private static void alikeByParts() {
        PreferTable t = table();
        int one = t.term(PARETO, 0, 2);
        int other = t.term(PARETO, t.order(0, 0, 0, 0), t.order(2, 2, 5, 9));
        expect(t, t.term(BOTH, one, other), "6 0 0 2 2 5");
        int turned = t.term(PARETO, 2, 0);
        expect(t, t.term(BOTH, one, turned), "8 6 0 0 2 2 5 6 2 2 5 0 0");
        int both = t.term(BOTH, 0, 2);
        expect(t, t.term(PARETO, one, both), "6 6 0 0 2 2 5 8 0 0 2 2 5");
        int longer = t.term(PARETO, 0, both);
        expect(t, t.term(BOTH, one, longer), "8 6 0 0 2 2 5 6 0 0 8 0 0 2 2 5");
        int dual = t.term(DUAL, one, 0);
        expect(t, t.term(BOTH, dual, t.term(DUAL, other, 0)), "9 6 0 0 2 2 5");
        expect(t, t.term(BOTH, dual, one), "8 9 6 0 0 2 2 5 6 0 0 2 2 5");
    }

    private static void formsOfTerms() {
        PreferTable t = table();
        for (int kind = PARETO; kind <= BOTH; kind++) {
            expect(t, t.term(kind, 2, 3), kind + " 2 2 5 3 3 1 2");
            expect(t, t.term(kind, 5, 4), kind + " 5 1 5 4 0 4");
        }
        expect(t, t.term(DUAL, 3, 0), "9 3 3 1 2");
        int pareto = t.term(PARETO, 0, 1);
        int prior = t.term(PRIOR, 2, pareto);
        expect(t, prior, "7 2 2 5 6 0 0 1 1");
        expect(t, t.term(BOTH, prior, t.term(DUAL, pareto, 0)),
            "8 7 2 2 5 6 0 0 1 1 9 6 0 0 1 1");
    }

    private static void formsOfOrders() {
        PreferTable t = table();
        for (int node = 0; node < 6; node++) {
            expect(t, node, FORMS.get(node));
        }
        PreferTable ends = new PreferTable();
        ends.order(2, 3, LEAST, 0);
        ends.order(2, 0, GREATEST, 0);
        ends.order(3, 3, LEAST, GREATEST);
        expect(ends, 0, "2 3 " + LEAST);
        expect(ends, 1, "2 0 " + GREATEST);
        expect(ends, 2, "3 3 " + LEAST + " " + GREATEST);
        for (int i = 3; i < 23; i++) {
            ends.order(4, 0, 0, 0);
        }
        ends.order(5, 2, 0, 0);
        expect(ends, 22, "4 0 22");
        expect(ends, 23, "5 2 23");
    }

    /** The longest one has twenty times BETWEEN, nineteen terms of two, and DUAL: SIZE 40. */
    private static void shortestAndLongestForm() {
        PreferTable t = new PreferTable();
        t.order(3, 0, LEAST, GREATEST);
        t.order(3, 3, -1, 1);
        t.order(0, 0, 0, 0);
        Check.same("the shortest", t.reduce(2), 2);
        int two = t.term(PARETO, 0, 1);
        int three = t.term(PARETO, two, 0);
        int five = t.term(BOTH, three, two);
        int otherFive = t.term(BOTH, two, three);
        int ten = t.term(PARETO, five, otherFive);
        int otherTen = t.term(PARETO, otherFive, five);
        int twenty = t.term(BOTH, ten, otherTen);
        int dual = t.term(DUAL, twenty, 0);
        Check.badState("nothing is longer", () -> t.term(DUAL, dual, 0));
        Check.same("of SIZE 39", t.reduce(twenty), 99);
        Check.same("the longest", t.reduce(dual), 100);
        expect(t, dual, "9 " + longestForm());
        Check.same("number 99", t.form(99), 1);
        Check.outside("number 100", () -> t.form(100));
    }

    private static String longestForm() {
        String first = "3 0 " + LEAST + " " + GREATEST;
        String two = "6 " + first + " 3 3 -1 1";
        String three = "6 " + two + " " + first;
        String five = "8 " + three + " " + two;
        String otherFive = "8 " + two + " " + three;
        return "8 6 " + five + " " + otherFive + " 6 " + otherFive + " " + five;
    }

    /** Terms of the SIZE 35 to 39 whose last part becomes shorter, or whose halves are ALIKE. */
    private static void reducedAtTheFarEnd() {
        expectOfLarge(t -> 9, EIGHTEEN);
        expectOfLarge(t -> t.term(PARETO, 9, 11), "6 " + EIGHTEEN + " 1 2");
        expectOfLarge(t -> t.term(PARETO, 9, t.term(DUAL, 11, 0)), "6 " + EIGHTEEN + " 0 2");
        expectOfLarge(t -> t.term(PARETO, 9, t.term(BOTH, 10, 10)), "6 " + EIGHTEEN + " 0 2");
        expectOfLarge(t -> t.term(PRIOR, 9, t.term(PARETO, 1, 0)), EIGHTEEN);
        expectOfLarge(t -> t.term(BOTH, t.term(DUAL, 9, 0), t.term(DUAL, 1, 0)),
            "9 8 " + EIGHTEEN + " 3 3 -1 1");
        expectOfLarge(t -> t.term(BOTH, 7, t.term(PARETO, 4, 6)), NINE);
    }

    private static void expectOfLarge(ToIntFunction<PreferTable> node, String due) {
        PreferTable t = tableOfLarge();
        expect(t, node.applyAsInt(t), due);
    }

    /** Node 9 has eighteen times BETWEEN, nodes 7 and 8 nine times; 10 LOW, 11 DUAL of it. */
    private static PreferTable tableOfLarge() {
        PreferTable t = new PreferTable();
        t.order(3, 0, LEAST, GREATEST);
        t.order(3, 3, -1, 1);
        t.term(PARETO, 0, 1);
        t.term(PARETO, 2, 0);
        t.term(BOTH, 3, 2);
        t.term(BOTH, 0, 1);
        t.term(BOTH, 2, 5);
        t.term(PARETO, 4, 6);
        t.term(PARETO, 6, 4);
        t.term(BOTH, 7, 8);
        t.order(0, 2, 0, 0);
        t.term(DUAL, 10, 0);
        return t;
    }

    private static void howManyNumbers() {
        PreferTable t = table();
        int[] due = {2, 2, 3, 4, 3, 3};
        for (int node = 0; node < 6; node++) {
            Check.same("reduce(" + node + ")", t.reduce(node), due[node]);
            Check.same("once more", t.reduce(node), due[node]);
        }
        Check.same("of a term", t.reduce(t.term(PARETO, 3, 4)), 8);
        Check.same("of one that becomes shorter", t.reduce(t.term(DUAL, 0, 0)), 2);
    }

    private static void nodeStaysAsItIs() {
        List<String> before = allButTheForm(Tables::some);
        for (int node = 0; node < 14; node++) {
            int n = node;
            List<String> after = allButTheForm(() -> {
                PreferTable t = Tables.some();
                t.reduce(n);
                return t;
            });
            String change = Portrait.difference(after, before);
            Check.same("the change by reduce(" + n + ")", change, "none");
        }
        PreferTable t = Bounds.withRows(2);
        t.order(1, 0, 0, 0);
        int low = t.term(DUAL, 0, 0);
        int high = t.term(DUAL, low, 0);
        Check.same("reduce", t.reduce(high), 2);
        Check.same("the way is as long as before", t.reason(high, 1, 0, 1), 3);
        Check.same("and has the same end", t.reason(high, 1, 0, 0), 0);
        Check.same("the part is as it was", t.reason(low, 0, 1, 1), 2);
        Check.same("the next node has the next number", t.order(0, 0, 0, 0), 3);
    }

    private static List<String> allButTheForm(Supplier<PreferTable> maker) {
        List<String> lines = Portrait.of(maker, new int[] {1, 2, 3, 4, 5}, 14);
        lines.removeIf(line -> line.startsWith("the FORM kept"));
        return lines;
    }

    private static void reduceNoSuchNode() {
        PreferTable t = table();
        t.reduce(3);
        for (int node : Bounds.outside(5)) {
            Check.outside("reduce(" + node + ")", () -> t.reduce(node));
        }
        Check.same("the FORM is as it was", t.form(3), 2);
        Check.outside("and not longer", () -> t.form(4));
        Check.same("the last node", t.reduce(5), 3);
    }

    private static void formMadeLast() {
        PreferTable t = table();
        t.reduce(3);
        int[] due = {3, 3, 1, 2};
        for (int k = 0; k < 4; k++) {
            Check.same("form(" + k + ")", t.form(k), due[k]);
        }
        t.row(0, 0, 0, 0);
        t.order(0, 0, 0, 0);
        t.term(DUAL, 3, 0);
        t.best(3);
        t.save(0, 3);
        Check.same("other calls leave it", t.form(3), 2);
        t.reduce(0);
        Check.same("a shorter one", t.form(1), 0);
        Check.outside("nothing is left of the longer one", () -> t.form(2));
        t.reduce(7);
        Check.same("a longer one", t.form(4), 2);
    }

    private static void noNumberSuch() {
        PreferTable t = table();
        for (int node = 0; node < 6; node++) {
            int length = t.reduce(node);
            for (int k : Bounds.outside(length - 1)) {
                Check.outside("form(" + k + ")", () -> t.form(k));
            }
            Check.same("the first", t.form(0), node);
            Check.same("the last", Integer.toString(t.form(length - 1)),
                FORMS.get(node).substring(FORMS.get(node).lastIndexOf(' ') + 1));
        }
    }

    private static void nothingReducedYet() {
        PreferTable t = table();
        for (int k : new int[] {LEAST, -1, 0, 1, 2, GREATEST}) {
            Check.outside("form(" + k + ")", () -> t.form(k));
        }
        Check.outside("reduce(6)", () -> t.reduce(6));
        Check.outside("form(0) after a refused one", () -> t.form(0));
    }
}
