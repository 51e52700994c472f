/** Promises 13 to 17: best, grouped, top, level, answer. */
public final class AnswersTest {
    public static void main(String[] args) {
        best();
        bestOfRowsThatPass();
        grouped();
        groupedOfRowsThatPass();
        top();
        levels();
        levelsGoByTheLongestChain();
        longestChain();
        fullTable();
        answerStays();
        wrongArgumentsChangeNothing();
        Check.end();
    }

    /** Rows with (low is good, high is good, a group); node 0 LOW, 1 HIGH, 2 PARETO of both. */
    private static PreferTable table() {
        PreferTable t = new PreferTable();
        t.order(0, 0, 0, 0);
        t.order(1, 1, 0, 0);
        t.term(6, 0, 1);
        t.row(5, 9, 0, 0);
        t.row(1, 1, 1, 0);
        t.row(3, 5, 0, 0);
        t.row(5, 9, 1, 0);
        t.row(4, 4, 1, 0);
        t.row(6, 3, 0, 0);
        return t;
    }

    private static void best() {
        PreferTable t = table();
        Check.same("best(0)", t.best(0), 1);
        Check.same("LOW", Check.answer(t), "1");
        Check.same("best(1)", t.best(1), 2);
        Check.same("HIGH: rows that are SAME are both best", Check.answer(t), "0 3");
        Check.same("best(2)", t.best(2), 4);
        Check.same("PARETO", Check.answer(t), "0 1 2 3");
        t.remove(2);
        Check.same("best(2) without row 2", t.best(2), 4);
        Check.same("row 4 comes up", Check.answer(t), "0 1 3 4");
        PreferTable empty = new PreferTable();
        empty.order(0, 0, 0, 0);
        Check.same("best of no rows", empty.best(0), 0);
        Check.same("is empty", Check.answer(empty), "");
    }

    private static void bestOfRowsThatPass() {
        PreferTable t = table();
        t.condition(0, 4, 3);
        t.best(2);
        Check.same("who does not pass beats nobody", Check.answer(t), "0 3 4");
        t.condition(1, 2, 9);
        t.best(2);
        Check.same("only 4 and 5 pass", Check.answer(t), "4");
        t.condition(2, 0, 7);
        Check.same("nobody passes", t.best(2), 0);
    }

    private static void grouped() {
        PreferTable t = table();
        Check.same("grouped(0, 2)", t.grouped(0, 2), 2);
        Check.same("LOW in each group", Check.answer(t), "1 2");
        Check.same("grouped(1, 2)", t.grouped(1, 2), 2);
        Check.same("HIGH in each group", Check.answer(t), "0 3");
        Check.same("grouped(1, 3)", t.grouped(1, 3), 2);
        Check.same("one group", Check.answer(t), "0 3");
        Check.same("grouped(1, 0)", t.grouped(1, 0), 6);
        Check.same("groups of rows that are SAME", Check.answer(t), "0 1 2 3 4 5");
        t.change(0, 2, Integer.MIN_VALUE);
        t.grouped(0, 2);
        Check.same("row 0 in a group of its own", Check.answer(t), "0 1 2");
    }

    private static void groupedOfRowsThatPass() {
        PreferTable t = table();
        t.condition(0, 1, 1);
        t.grouped(0, 2);
        Check.same("without row 1", Check.answer(t), "2 4");
        t.condition(2, 0, 1);
        Check.same("a group of which none passes", t.grouped(0, 2), 1);
        Check.same("has no best", Check.answer(t), "4");
    }

    private static void top() {
        PreferTable t = table();
        Check.same("top(2, 0)", t.top(2, 0), 0);
        Check.same("no rows", Check.answer(t), "");
        Check.same("top(2, 3)", t.top(2, 3), 3);
        Check.same("within LEVEL 1", Check.answer(t), "0 1 2");
        Check.same("top(1, 4)", t.top(1, 4), 4);
        Check.same("by LEVEL", Check.answer(t), "0 3 2 4");
        Check.same("top(1, 6)", t.top(1, 6), 6);
        Check.same("all", Check.answer(t), "0 3 2 4 5 1");
        Check.same("top(0, most)", t.top(0, Integer.MAX_VALUE), 6);
        Check.same("there are no more", Check.answer(t), "1 2 4 0 3 5");
        t.condition(0, 5, 4);
        Check.same("of those that pass", t.top(0, 5), 4);
        Check.same("by LEVEL among them", Check.answer(t), "4 0 3 5");
    }

    private static void levels() {
        PreferTable t = table();
        int[] due = {1, 1, 1, 1, 2, 3};
        for (int row = 0; row < due.length; row++) {
            Check.same("level(2, " + row + ")", t.level(2, row), due[row]);
        }
        t.condition(1, 3, 4);
        int[] dueThen = {0, 1, 0, 0, 1, 2};
        for (int row = 0; row < due.length; row++) {
            Check.same("level(2, " + row + ") of few", t.level(2, row), dueThen[row]);
        }
        t.remove(4);
        Check.same("without row 4", t.level(2, 5), 1);
        Check.outside("level of a row that is gone", () -> t.level(2, 4));
    }

    /** Row 3 is beaten by row 0, which is at LEVEL 1, and by row 2, which is at LEVEL 3. */
    private static void levelsGoByTheLongestChain() {
        PreferTable t = new PreferTable();
        t.order(5, 0, 0, 0);
        t.edge(0, 0, 3);
        t.edge(0, 4, 1);
        t.edge(0, 1, 2);
        t.edge(0, 2, 3);
        t.row(0, 0, 0, 0);
        t.row(3, 0, 0, 0);
        t.row(2, 0, 0, 0);
        t.row(1, 0, 0, 0);
        t.row(4, 0, 0, 0);
        t.top(0, 5);
        Check.same("by LEVEL", Check.answer(t), "0 4 3 2 1");
        Check.same("level(0, 1)", t.level(0, 1), 4);
    }

    private static void longestChain() {
        PreferTable t = new PreferTable();
        t.order(1, 0, 0, 0);
        for (int i = 0; i < 24; i++) {
            t.row(i, 0, 0, 0);
        }
        Check.same("level(0, 0)", t.level(0, 0), 24);
        Check.same("level(0, 23)", t.level(0, 23), 1);
        Check.same("top(0, 24)", t.top(0, 24), 24);
        Check.same("answer(0)", t.answer(0), 23);
        Check.same("answer(23)", t.answer(23), 0);
        Check.same("answer(24)", t.answer(24), PreferTable.NONE);
    }

    private static void fullTable() {
        PreferTable t = new PreferTable();
        t.order(5, 0, 0, 0);
        for (int i = 0; i < 24; i++) {
            t.row(i % 2, i, 0, 0);
        }
        Check.same("best, if none is better", t.best(0), 24);
        t.edge(0, 1, 0);
        Check.same("best, if half are better", t.best(0), 12);
        Check.same("grouped, each by itself", t.grouped(0, 1), 24);
        Check.same("grouped, all together", t.grouped(0, 2), 12);
        Check.same("the first", t.answer(0), 1);
        Check.same("the last", t.answer(11), 23);
        Check.same("top", t.top(0, 13), 13);
        Check.same("the first of LEVEL 2", t.answer(12), 0);
    }

    private static void answerStays() {
        PreferTable t = table();
        t.best(2);
        t.remove(1);
        t.change(0, 0, 99);
        t.condition(0, 0, 77);
        t.level(2, 0);
        t.save(0, 1);
        t.saved(0, 0, -1);
        t.reduce(2);
        Check.same("as it was", Check.answer(t), "0 1 2 3");
        Check.same("answer(-1)", t.answer(-1), 4);
        Check.same("answer(least)", t.answer(Integer.MIN_VALUE), PreferTable.NONE);
        Check.same("answer(greatest)", t.answer(Integer.MAX_VALUE), PreferTable.NONE);
    }

    private static void wrongArgumentsChangeNothing() {
        PreferTable t = table();
        t.best(1);
        Check.outside("best(3)", () -> t.best(3));
        Check.outside("best(-1)", () -> t.best(-1));
        Check.outside("grouped(3, 0)", () -> t.grouped(3, 0));
        Check.outside("grouped(-1, 0)", () -> t.grouped(-1, 0));
        Check.outside("grouped(0, 4)", () -> t.grouped(0, 4));
        Check.outside("grouped(0, -1)", () -> t.grouped(0, -1));
        Check.outside("top(3, 1)", () -> t.top(3, 1));
        Check.outside("top(-1, 1)", () -> t.top(-1, 1));
        Check.badArgument("top(0, -1)", () -> t.top(0, -1));
        Check.badArgument("top(0, least)", () -> t.top(0, Integer.MIN_VALUE));
        Check.outside("a wrong node comes first", () -> t.top(3, -1));
        Check.outside("level(3, 0)", () -> t.level(3, 0));
        Check.outside("level(-1, 0)", () -> t.level(-1, 0));
        Check.outside("level(0, 6)", () -> t.level(0, 6));
        Check.outside("level(0, -1)", () -> t.level(0, -1));
        Check.same("the ANSWER is as it was", Check.answer(t), "0 3");
    }
}
