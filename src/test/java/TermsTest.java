/** Promise 9 (term), and what promise 12 (compare) says of terms. */
public final class TermsTest {
    private static final int PARETO = 6;
    private static final int PRIOR = 7;
    private static final int BOTH = 8;
    private static final int DUAL = 9;

    // What AROUND 0 says of a value and 5: NEITHER, BETTER, WORSE, SAME.
    private static final int[] VALUE_FOR = {-5, 1, 9, 5};

    public static void main(String[] args) {
        termsAreNumberedWithOrders();
        wrongTermsAreRefused();
        sizeIsAtMost40();
        verdictsArePutTogether();
        dualChangesOver();
        termsOfTerms();
        deepestTerm();
        Check.end();
    }

    private static void termsAreNumberedWithOrders() {
        PreferTable t = new PreferTable();
        t.order(0, 0, 0, 0);
        Check.same("term(6, 0, 0)", t.term(PARETO, 0, 0), 1);
        Check.same("order after a term", t.order(0, 0, 0, 0), 2);
        Check.same("term(8, 1, 2)", t.term(BOTH, 1, 2), 3);
    }

    private static void wrongTermsAreRefused() {
        PreferTable t = new PreferTable();
        t.order(0, 0, 0, 0);
        Check.badArgument("term(5, 0, 0)", () -> t.term(5, 0, 0));
        Check.badArgument("term(10, 0, 0)", () -> t.term(10, 0, 0));
        for (int kind = PARETO; kind <= DUAL; kind++) {
            int k = kind;
            Check.badArgument("no such p", () -> t.term(k, 1, 0));
            Check.badArgument("no such p", () -> t.term(k, -1, 0));
        }
        for (int kind = PARETO; kind <= BOTH; kind++) {
            int k = kind;
            Check.badArgument("no such q", () -> t.term(k, 0, 1));
            Check.badArgument("no such q", () -> t.term(k, 0, -1));
        }
        Check.same("q does not count for DUAL", t.term(DUAL, 0, 99), 1);
        Check.same("q does not count for DUAL", t.term(DUAL, 0, -1), 2);
    }

    private static void sizeIsAtMost40() {
        PreferTable t = new PreferTable();
        t.order(0, 0, 0, 0);
        int size19 = doubled(t, doubled(t, doubled(t, 0)));
        size19 = t.term(DUAL, t.term(DUAL, t.term(DUAL, t.term(DUAL, size19, 0), 0), 0), 0);
        int size39 = t.term(PRIOR, size19, size19);
        Check.badState("SIZE 41", () -> t.term(BOTH, size39, 0));
        Check.badState("SIZE 79", () -> t.term(BOTH, size39, size39));
        int size40 = t.term(DUAL, size39, 0);
        Check.same("SIZE 40", size40, size39 + 1);
        Check.badState("SIZE 41 by DUAL", () -> t.term(DUAL, size40, 0));
        Check.badArgument("a wrong node comes first", () -> t.term(BOTH, size40, size40 + 1));
        Check.same("one refused took no number", t.order(0, 0, 0, 0), size40 + 1);
    }

    private static int doubled(PreferTable t, int node) {
        return t.term(PARETO, node, node);
    }

    /** Every two verdicts of p and q, in the order NEITHER, BETTER, WORSE, SAME of both. */
    private static void verdictsArePutTogether() {
        Check.same("PARETO", table(PARETO), "0000 0101 0022 0123");
        Check.same("PRIOR", table(PRIOR), "0000 1111 2222 0123");
        Check.same("BOTH", table(BOTH), "0000 0100 0020 0003");
    }

    private static String table(int kind) {
        StringBuilder all = new StringBuilder();
        for (int p = 0; p < 4; p++) {
            all.append(p == 0 ? "" : " ");
            for (int q = 0; q < 4; q++) {
                PreferTable t = new PreferTable();
                t.order(2, 0, 0, 0);
                t.order(2, 1, 0, 0);
                t.row(VALUE_FOR[p], VALUE_FOR[q], 0, 0);
                t.row(5, 5, 0, 0);
                Check.same("p", t.compare(0, 0, 1), p);
                Check.same("q", t.compare(1, 0, 1), q);
                all.append(t.compare(t.term(kind, 0, 1), 0, 1));
            }
        }
        return all.toString();
    }

    private static void dualChangesOver() {
        int[] due = {0, 2, 1, 3};
        for (int p = 0; p < 4; p++) {
            PreferTable t = new PreferTable();
            t.order(2, 0, 0, 0);
            t.row(VALUE_FOR[p], 0, 0, 0);
            t.row(5, 0, 0, 0);
            t.term(DUAL, 0, 0);
            t.term(DUAL, 1, 0);
            Check.same("DUAL", t.compare(1, 0, 1), due[p]);
            Check.same("DUAL of DUAL", t.compare(2, 0, 1), p);
        }
    }

    private static void termsOfTerms() {
        PreferTable t = new PreferTable();
        t.order(0, 0, 0, 0);
        t.order(1, 1, 0, 0);
        t.order(0, 2, 0, 0);
        t.term(PARETO, 0, 1);
        t.term(PRIOR, 3, 2);
        t.term(DUAL, 4, 0);
        t.term(BOTH, 5, 5);
        t.row(1, 1, 1, 0);
        t.row(1, 1, 2, 0);
        t.row(2, 2, 0, 0);
        Check.same("PARETO is SAME", t.compare(4, 0, 1), 1);
        Check.same("PARETO is NEITHER", t.compare(4, 0, 2), 0);
        Check.same("DUAL of it", t.compare(5, 0, 1), 2);
        Check.same("BOTH of that twice", t.compare(6, 1, 0), 1);
        t.change(0, 0, 3);
        Check.same("rows are looked at anew", t.compare(4, 0, 1), 2);
    }

    private static void deepestTerm() {
        PreferTable t = new PreferTable();
        t.order(0, 0, 0, 0);
        for (int i = 0; i < 23; i++) {
            t.term(DUAL, i, 0);
        }
        t.row(1, 0, 0, 0);
        t.row(2, 0, 0, 0);
        Check.same("DUAL 23 times", t.compare(23, 0, 1), 2);
        Check.same("DUAL 22 times", t.compare(22, 0, 1), 1);
        Check.same("the longest way", t.reason(23, 1, 0, 1), 24);
        Check.same("its end", t.reason(23, 1, 0, 0), 0);
        Check.same("reduced", Check.form(t, 23), "1 0");
    }
}
