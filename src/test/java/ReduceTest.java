/** Promises 22 and 23: reduce, form. */
public final class ReduceTest {
    private static final int PARETO = 6;
    private static final int PRIOR = 7;
    private static final int BOTH = 8;
    private static final int DUAL = 9;

    public static void main(String[] args) {
        formsOfOrders();
        formsOfTerms();
        dualOfDual();
        dualOfLowAndHigh();
        partsThatAreAlike();
        termsThatAreAlike();
        partsThatAreNotAlike();
        priorWithColumnsInside();
        dualsArePulledOut();
        partsAreReducedFirst();
        longForm();
        formStays();
        wrongArguments();
        Check.end();
    }

    /** 0 LOW 0, 1 HIGH 0, 2 LOW 1, 3 AROUND 7 on 1, 4 BETWEEN -1, 3 on 2, 5 LAYERS 2, 6 GRAPH 3. */
    private static PreferTable table() {
        PreferTable t = new PreferTable();
        t.order(0, 0, 8, 8);
        t.order(1, 0, 9, 9);
        t.order(0, 1, 0, 0);
        t.order(2, 1, 7, 5);
        t.order(3, 2, -1, 3);
        t.order(4, 2, 0, 0);
        t.order(5, 3, 0, 0);
        return t;
    }

    private static void expect(PreferTable t, int node, String due) {
        Check.same("the FORM of node " + node, Check.form(t, node), due);
    }

    private static void formsOfOrders() {
        PreferTable t = table();
        String[] due = {"0 0", "1 0", "0 1", "2 1 7", "3 2 -1 3", "4 2 5", "5 3 6"};
        for (int node = 0; node < due.length; node++) {
            expect(t, node, due[node]);
        }
    }

    private static void formsOfTerms() {
        PreferTable t = table();
        expect(t, t.term(PARETO, 0, 2), "6 0 0 0 1");
        expect(t, t.term(PRIOR, 3, 4), "7 2 1 7 3 2 -1 3");
        expect(t, t.term(BOTH, 5, 6), "8 4 2 5 5 3 6");
        expect(t, t.term(DUAL, 6, 0), "9 5 3 6");
        expect(t, t.term(PARETO, 7, 10), "6 6 0 0 0 1 9 5 3 6");
    }

    private static void dualOfDual() {
        PreferTable t = table();
        int once = t.term(DUAL, 3, 0);
        int twice = t.term(DUAL, once, 0);
        int thrice = t.term(DUAL, twice, 0);
        expect(t, once, "9 2 1 7");
        expect(t, twice, "2 1 7");
        expect(t, thrice, "9 2 1 7");
        expect(t, t.term(DUAL, thrice, 0), "2 1 7");
    }

    private static void dualOfLowAndHigh() {
        PreferTable t = table();
        expect(t, t.term(DUAL, 0, 0), "1 0");
        expect(t, t.term(DUAL, 1, 0), "0 0");
        expect(t, t.term(DUAL, 2, 0), "1 1");
        expect(t, t.term(DUAL, t.term(DUAL, 2, 0), 0), "0 1");
    }

    private static void partsThatAreAlike() {
        PreferTable t = table();
        expect(t, t.term(PARETO, 0, t.order(0, 0, 1, 2)), "0 0");
        expect(t, t.term(BOTH, 1, t.term(DUAL, 0, 0)), "1 0");
        expect(t, t.term(PRIOR, 3, t.order(2, 1, 7, 99)), "2 1 7");
        expect(t, t.term(BOTH, 4, t.order(3, 2, -1, 3)), "3 2 -1 3");
        expect(t, t.term(PARETO, 5, 5), "4 2 5");
        expect(t, t.term(BOTH, 6, 6), "5 3 6");
    }

    private static void termsThatAreAlike() {
        PreferTable t = table();
        int p = t.term(PARETO, 0, 3);
        int q = t.term(PARETO, t.order(0, 0, 0, 0), t.order(2, 1, 7, 0));
        for (int kind = PARETO; kind <= BOTH; kind++) {
            expect(t, t.term(kind, p, q), "6 0 0 2 1 7");
        }
    }

    private static void partsThatAreNotAlike() {
        PreferTable t = table();
        int layers = t.order(4, 2, 0, 0);
        expect(t, t.term(PARETO, 5, layers), "6 4 2 5 4 2 7");
        int graph = t.order(5, 3, 0, 0);
        expect(t, t.term(BOTH, 6, graph), "8 5 3 6 5 3 9");
        expect(t, t.term(PARETO, 0, 1), "6 0 0 1 0");
        expect(t, t.term(BOTH, 0, 2), "8 0 0 0 1");
        expect(t, t.term(PARETO, 3, t.order(2, 1, 8, 5)), "6 2 1 7 2 1 8");
        expect(t, t.term(PARETO, 4, t.order(3, 2, -1, 4)), "6 3 2 -1 3 3 2 -1 4");
        int one = t.term(PARETO, 0, 2);
        int other = t.term(PARETO, 2, 0);
        expect(t, t.term(BOTH, one, other), "8 6 0 0 0 1 6 0 1 0 0");
        expect(t, t.term(PARETO, one, t.term(BOTH, 0, 2)), "6 6 0 0 0 1 8 0 0 0 1");
    }

    private static void priorWithColumnsInside() {
        PreferTable t = table();
        int wide = t.term(PARETO, 0, 3);
        expect(t, t.term(PRIOR, 0, 1), "0 0");
        expect(t, t.term(PRIOR, wide, 2), "6 0 0 2 1 7");
        expect(t, t.term(PRIOR, 2, wide), "7 0 1 6 0 0 2 1 7");
        expect(t, t.term(PRIOR, wide, t.term(PARETO, 2, 0)), "6 0 0 2 1 7");
        expect(t, t.term(PRIOR, wide, t.term(DUAL, 3, 0)), "6 0 0 2 1 7");
        expect(t, t.term(PRIOR, wide, 6), "7 6 0 0 2 1 7 5 3 6");
        expect(t, t.term(PARETO, wide, 2), "6 6 0 0 2 1 7 0 1");
        expect(t, t.term(BOTH, wide, 2), "8 6 0 0 2 1 7 0 1");
    }

    private static void dualsArePulledOut() {
        PreferTable t = table();
        int p = t.term(DUAL, 5, 0);
        int q = t.term(DUAL, 6, 0);
        int pareto = t.term(PARETO, p, q);
        expect(t, pareto, "9 6 4 2 5 5 3 6");
        expect(t, t.term(BOTH, p, q), "9 8 4 2 5 5 3 6");
        expect(t, t.term(PRIOR, p, q), "7 9 4 2 5 9 5 3 6");
        expect(t, t.term(PARETO, p, 6), "6 9 4 2 5 5 3 6");
        expect(t, t.term(PARETO, 6, p), "6 5 3 6 9 4 2 5");
        expect(t, t.term(DUAL, pareto, 0), "6 4 2 5 5 3 6");
        expect(t, t.term(PARETO, p, p), "9 4 2 5");
        int r = t.term(DUAL, 3, 0);
        expect(t, t.term(BOTH, r, pareto), "9 8 2 1 7 6 4 2 5 5 3 6");
        expect(t, t.term(BOTH, pareto, r), "9 8 6 4 2 5 5 3 6 2 1 7");
        expect(t, t.term(PARETO, t.term(DUAL, 0, 0), r), "6 1 0 9 2 1 7");
    }

    private static void partsAreReducedFirst() {
        PreferTable t = table();
        int p = t.term(PRIOR, 5, 4);
        int q = t.term(BOTH, 5, 5);
        expect(t, t.term(PARETO, p, q), "4 2 5");
        int dual = t.term(DUAL, p, 0);
        expect(t, dual, "9 4 2 5");
        expect(t, t.term(BOTH, dual, t.term(DUAL, 6, 0)), "9 8 4 2 5 5 3 6");
        int high = t.term(DUAL, t.term(PARETO, 2, 2), 0);
        expect(t, high, "1 1");
        expect(t, t.term(PRIOR, 6, high), "7 5 3 6 1 1");
    }

    /** Twenty times BETWEEN in a term of SIZE 39. */
    private static void longForm() {
        PreferTable t = new PreferTable();
        int four = t.order(3, 0, 0, 0);
        for (int i = 1; i < 4; i++) {
            four = t.term(PARETO, t.order(3, i, i, i), four);
        }
        int nine = t.term(BOTH, four, t.term(PARETO, four, 0));
        int ten = t.term(BOTH, nine, t.order(3, 0, 6, 6));
        int otherTen = t.term(BOTH, nine, t.order(3, 0, 7, 7));
        int twenty = t.term(PARETO, ten, otherTen);
        Check.same("reduce", t.reduce(twenty), 20 * 4 + 19);
        Check.same("form(0)", t.form(0), PARETO);
        Check.same("the last number", t.form(98), 7);
        Check.outside("form(99)", () -> t.form(99));
    }

    private static void formStays() {
        PreferTable t = table();
        Check.outside("form(0) before reduce", () -> t.form(0));
        Check.same("reduce(4)", t.reduce(4), 4);
        t.row(0, 0, 0, 0);
        t.best(0);
        t.term(PARETO, 0, 2);
        Check.outside("reduce(8)", () -> t.reduce(8));
        Check.outside("reduce(-1)", () -> t.reduce(-1));
        Check.same("form(3)", t.form(3), 3);
        Check.same("reduce(0)", t.reduce(0), 2);
        Check.outside("form(2)", () -> t.form(2));
        int low = t.term(DUAL, 1, 0);
        t.reduce(low);
        t.row(1, 0, 0, 0);
        Check.same("the node stays as it is", t.reason(low, 0, 1, 1), 2);
    }

    private static void wrongArguments() {
        PreferTable t = table();
        Check.outside("reduce(7)", () -> t.reduce(7));
        Check.outside("reduce(24)", () -> t.reduce(24));
        Check.outside("reduce(-1)", () -> t.reduce(-1));
        t.reduce(0);
        Check.outside("form(-1)", () -> t.form(-1));
        Check.outside("form(2)", () -> t.form(2));
        Check.outside("form(greatest)", () -> t.form(Integer.MAX_VALUE));
    }
}
