/** TERMS, and promise 9, at their bounds: a test for each sentence. */
public final class TermBoundsTest {
    private static final int LEAST = Bounds.LEAST;
    private static final int GREATEST = Bounds.GREATEST;
    private static final int PARETO = 6;
    private static final int PRIOR = 7;
    private static final int BOTH = 8;
    private static final int DUAL = 9;

    public static void main(String[] args) {
        Check.sentence("TERMS are made of nodes p, q (which can be the same)",
            TermBoundsTest::ofOneNodeTwice);
        Check.sentence("Its SIZE is 1, or 1 more than the SIZEs of those .. together",
            TermBoundsTest::sizeCountsBoth);
        Check.sentence("(of both, also if they are the same)", TermBoundsTest::sizeCountsTwice);
        Check.sentence("9 DUAL, of p alone (SIZE)", TermBoundsTest::sizeOfDual);
        Check.sentence("9: A new term of a kind 6 .. 9: its number", TermBoundsTest::everyTerm);
        Check.sentence("9: (q counts for 6 to 8)", TermBoundsTest::anyQForDual);
        Check.sentence("9: IllegalArgumentException if there is no such kind",
            TermBoundsTest::noSuchKind);
        Check.sentence("9: IllegalArgumentException if there is no such .. node",
            TermBoundsTest::noSuchNode);
        Check.sentence("9: IllegalStateException if there are 24 nodes",
            TermBoundsTest::noTermBeside24);
        Check.sentence("9: IllegalStateException if .. its SIZE would be above 40",
            TermBoundsTest::sizeAbove40);
        Check.end();
    }

    /** A table with one order of SIZE 1, and one row of each value 0, 1. */
    private static PreferTable table() {
        PreferTable t = Bounds.withRows(2);
        t.order(0, 0, 0, 0);
        return t;
    }

    /** A term of the SIZE (1 or more) that is asked for, by DUALs and PARETOs of node 0. */
    private static int ofSize(PreferTable t, int size) {
        if (size == 1) {
            return 0;
        }
        if (size % 2 == 0) {
            return t.term(DUAL, ofSize(t, size - 1), 0);
        }
        int half = ofSize(t, size / 2);
        return t.term(PARETO, half, half);
    }

    private static void ofOneNodeTwice() {
        for (int kind = PARETO; kind <= BOTH; kind++) {
            PreferTable t = Bounds.tableOf(0, 4, 6, 7, 7);
            t.order(2, 0, 5, 0);
            Check.same("term", t.term(kind, 0, 0), 1);
            Check.same("NEITHER", t.compare(1, 0, 1), 0);
            Check.same("BETTER", t.compare(1, 1, 2), 1);
            Check.same("WORSE", t.compare(1, 2, 1), 2);
            Check.same("SAME", t.compare(1, 2, 3), 3);
        }
    }

    private static void sizeCountsBoth() {
        for (int kind = PARETO; kind <= BOTH; kind++) {
            for (int first : new int[] {1, 2, 19, 37, 38}) {
                PreferTable t = table();
                int p = ofSize(t, first);
                int q = ofSize(t, 39 - first);
                int more = ofSize(t, 40 - first);
                int k = kind;
                int next = more + 1;
                Check.badState("SIZE 41", () -> t.term(k, p, more));
                Check.badState("SIZE 41", () -> t.term(k, more, p));
                Check.same("SIZE 40", t.term(kind, p, q), next);
                Check.same("SIZE 40", t.term(kind, q, p), next + 1);
            }
        }
    }

    private static void sizeCountsTwice() {
        for (int kind = PARETO; kind <= BOTH; kind++) {
            PreferTable t = table();
            int k = kind;
            int twenty = ofSize(t, 20);
            Check.badState("SIZE 41", () -> t.term(k, twenty, twenty));
            int nineteen = ofSize(t, 19);
            int thirtyNine = t.term(kind, nineteen, nineteen);
            Check.same("SIZE 39", thirtyNine, nineteen + 1);
            Check.badState("SIZE 41", () -> t.term(k, thirtyNine, 0));
            Check.badState("SIZE 79", () -> t.term(k, thirtyNine, thirtyNine));
            Check.same("SIZE 40", t.term(DUAL, thirtyNine, 0), thirtyNine + 1);
        }
    }

    private static void sizeOfDual() {
        PreferTable t = table();
        int forty = t.term(DUAL, ofSize(t, 39), 0);
        Check.badState("SIZE 41", () -> t.term(DUAL, forty, 0));
        Check.badState("SIZE 41, with another q", () -> t.term(DUAL, forty, 99));
        PreferTable other = table();
        int thirtyNine = ofSize(other, 39);
        Check.same("q adds nothing", other.term(DUAL, thirtyNine, thirtyNine), thirtyNine + 1);
    }

    private static void everyTerm() {
        PreferTable t = Bounds.withRows(2);
        t.order(0, 0, 0, 0);
        t.order(1, 1, 0, 0);
        int[] due = {0, 1, 0, 2};
        for (int kind = PARETO; kind <= DUAL; kind++) {
            Check.same("term(" + kind + ", 0, 1)", t.term(kind, 0, 1), kind - 4);
            Check.same("compare 0, 1", t.compare(kind - 4, 0, 1), due[kind - PARETO]);
        }
        Check.same("of the last node", t.term(PRIOR, 5, 5), 6);
        Check.same("says what that one says", t.compare(6, 0, 1), 2);
    }

    private static void anyQForDual() {
        for (int q : new int[] {LEAST, -1, 0, 1, 2, 24, GREATEST}) {
            PreferTable t = table();
            Check.same("term(9, 0, " + q + ")", t.term(DUAL, 0, q), 1);
            Check.same("compare 0, 1", t.compare(1, 0, 1), 2);
            Check.same("its FORM", Check.form(t, 1), "1 0");
        }
    }

    private static void noSuchKind() {
        PreferTable t = table();
        for (int kind : new int[] {LEAST, -1, 0, 4, 5, 10, 11, 38, 41, 262, GREATEST}) {
            Check.badArgument("term(" + kind + ", 0, 0)", () -> t.term(kind, 0, 0));
        }
        Check.same("none has come", t.term(PARETO, 0, 0), 1);
    }

    private static void noSuchNode() {
        PreferTable t = table();
        t.order(1, 1, 0, 0);
        for (int node : Bounds.outside(1)) {
            for (int kind = PARETO; kind <= DUAL; kind++) {
                int k = kind;
                Check.badArgument("p = " + node, () -> t.term(k, node, 0));
                Check.badArgument("p and q = " + node, () -> t.term(k, node, node));
                if (kind != DUAL) {
                    Check.badArgument("q = " + node, () -> t.term(k, 0, node));
                }
            }
        }
        Check.badArgument("not even of itself", () -> t.term(PARETO, 2, 2));
        Check.same("none has come", t.term(PARETO, 1, 0), 2);
    }

    private static void noTermBeside24() {
        PreferTable t = table();
        for (int i = 1; i < 23; i++) {
            t.order(0, 0, 0, 0);
        }
        Check.same("node 23 is a term", t.term(PARETO, 22, 0), 23);
        for (int kind = PARETO; kind <= DUAL; kind++) {
            int k = kind;
            Check.badState("term 25", () -> t.term(k, 0, 1));
            Check.badState("term 25 of node 23", () -> t.term(k, 23, 23));
        }
        Check.outside("none has come", () -> t.reduce(24));
    }

    private static void sizeAbove40() {
        PreferTable t = table();
        int forty = ofSize(t, 40);
        int twenty = ofSize(t, 20);
        int next = twenty + 1;
        for (int kind = PARETO; kind <= BOTH; kind++) {
            int k = kind;
            Check.badState("40 and 1", () -> t.term(k, forty, 0));
            Check.badState("1 and 40", () -> t.term(k, 0, forty));
            Check.badState("40 and 40", () -> t.term(k, forty, forty));
            Check.badState("20 and 20", () -> t.term(k, twenty, twenty));
        }
        Check.badState("DUAL of 40", () -> t.term(DUAL, forty, 0));
        Check.same("none has come", t.order(0, 0, 0, 0), next);
        Check.same("SIZE 40 compares, by two DUALs", t.compare(forty, 0, 1), 1);
    }
}
