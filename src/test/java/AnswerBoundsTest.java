/** ANSWERS, and promises 13 to 17, at their bounds: a test for each sentence. */
public final class AnswerBoundsTest {
    private static final int LEAST = Bounds.LEAST;
    private static final int GREATEST = Bounds.GREATEST;
    private static final String ALL_24 =
        "0 1 2 3 4 5 6 7 8 9 10 11 12 13 14 15 16 17 18 19 20 21 22 23";

    public static void main(String[] args) {
        Check.sentence("An ANSWER is a row of row numbers (at first empty)",
            AnswerBoundsTest::atFirstEmpty);
        Check.sentence("BEST are the rows that pass and that no row that passes beats",
            AnswerBoundsTest::beatenByRowsThatPass);
        Check.sentence("The LEVEL of a row that passes is 1 if none that passes beats it",
            AnswerBoundsTest::levelsAmongRowsThatPass);
        Check.sentence("else 1 more than the greatest LEVEL of those that do",
            AnswerBoundsTest::greatestLevelCounts);
        best();
        grouped();
        top();
        Check.sentence("16: The LEVEL of a row", AnswerBoundsTest::leastAndGreatestLevel);
        Check.sentence("16: 0 if it does not pass", AnswerBoundsTest::levelOfRowThatDoesNotPass);
        Check.sentence("16: IndexOutOfBoundsException if there is no such node",
            AnswerBoundsTest::levelByNoSuchNode);
        Check.sentence("16: IndexOutOfBoundsException if there is no such .. row",
            AnswerBoundsTest::levelOfNoSuchRow);
        Check.sentence("17: Row i of the ANSWER", AnswerBoundsTest::firstAndLastOfAnswer);
        Check.sentence("17: how many there are, if i is -1", AnswerBoundsTest::howMany);
        Check.sentence("17: NONE if there is none such", AnswerBoundsTest::noneSuch);
        Check.end();
    }

    private static void best() {
        Check.sentence("13: The ANSWER becomes the BEST rows .. how many",
            AnswerBoundsTest::noneOneAndAllAreBest);
        Check.sentence("13: by rising numbers", AnswerBoundsTest::bestByRisingNumbers);
        Check.sentence("13: IndexOutOfBoundsException if there is no such node",
            AnswerBoundsTest::bestByNoSuchNode);
    }

    private static void grouped() {
        Check.sentence("14: The ANSWER becomes the BEST rows among those with the same value in "
            + "a column, for each value there is", AnswerBoundsTest::oneGroupAndManyGroups);
        Check.sentence("14: all together by rising numbers",
            AnswerBoundsTest::groupsByRisingNumbers);
        Check.sentence("14: IndexOutOfBoundsException if there is no such node",
            AnswerBoundsTest::groupedByNoSuchNode);
        Check.sentence("14: IndexOutOfBoundsException if there is no such .. column",
            AnswerBoundsTest::groupedByNoSuchColumn);
    }

    private static void top() {
        Check.sentence("15: The ANSWER becomes the first n of the rows that pass",
            AnswerBoundsTest::everyN);
        Check.sentence("15: by LEVEL and then by number", AnswerBoundsTest::byLevelThenByNumber);
        Check.sentence("15: how many (fewer if there are fewer)", AnswerBoundsTest::fewerRows);
        Check.sentence("15: IndexOutOfBoundsException if there is no such node",
            AnswerBoundsTest::topByNoSuchNode);
        Check.sentence("15: IllegalArgumentException if n is below 0", AnswerBoundsTest::nBelow0);
    }

    /** 24 rows, row i with i everywhere; nodes 0 LOW, 1 HIGH, 2 GRAPH, all of column 0. */
    private static PreferTable full() {
        PreferTable t = Bounds.withRows(24);
        addNodes(t);
        return t;
    }

    private static void addNodes(PreferTable t) {
        t.order(0, 0, 0, 0);
        t.order(1, 0, 0, 0);
        t.order(5, 0, 0, 0);
    }

    private static void atFirstEmpty() {
        PreferTable t = full();
        Check.same("answer(-1)", t.answer(-1), 0);
        Check.none("answer(0)", t.answer(0));
        t.level(0, 3);
        t.compare(0, 1, 2);
        t.save(0, 2);
        t.reduce(1);
        Check.outside("best(3)", () -> t.best(3));
        Check.same("other calls do not fill it", t.answer(-1), 0);
    }

    private static void beatenByRowsThatPass() {
        PreferTable t = full();
        t.condition(0, 5, 23);
        Check.same("one passes", t.best(0), 1);
        Check.same("the worst one", Check.answer(t), "23");
        t.free();
        t.condition(0, 4, 23);
        Check.same("none passes", t.best(0), 0);
        Check.same("none is BEST", Check.answer(t), "");
        t.free();
        t.condition(0, 5, 22);
        Check.same("two pass", t.best(0), 1);
        Check.same("the better one", Check.answer(t), "22");
    }

    private static void levelsAmongRowsThatPass() {
        PreferTable t = full();
        Check.same("all pass", t.level(0, 22), 23);
        t.condition(0, 5, 22);
        Check.same("two pass: the better one", t.level(0, 22), 1);
        Check.same("two pass: the worse one", t.level(0, 23), 2);
        Check.same("of rows that are not beaten", t.level(2, 23), 1);
    }

    /** Value 9 is beaten by 0, 5 and 7; 7 is beaten by 6, and 6 by 5. */
    private static void greatestLevelCounts() {
        PreferTable t = Bounds.tableOf(0, 9, 0, 5, 6, 7);
        t.order(5, 0, 0, 0);
        t.edge(0, 0, 9);
        t.edge(0, 5, 9);
        t.edge(0, 5, 6);
        t.edge(0, 6, 7);
        t.edge(0, 7, 9);
        int[] due = {4, 1, 1, 2, 3};
        for (int row = 0; row < 5; row++) {
            Check.same("level(0, " + row + ")", t.level(0, row), due[row]);
        }
        t.remove(3);
        Check.same("6 is gone: 5 and 7 are joined still", t.level(0, 4), 2);
        Check.same("6 is gone: 9", t.level(0, 0), 3);
    }

    private static void noneOneAndAllAreBest() {
        PreferTable none = new PreferTable();
        addNodes(none);
        Check.same("of no rows", none.best(0), 0);
        Check.same("the ANSWER", Check.answer(none), "");
        PreferTable one = Bounds.withRows(1);
        addNodes(one);
        Check.same("of one row", one.best(0), 1);
        Check.same("the ANSWER", Check.answer(one), "0");
        PreferTable t = full();
        Check.same("all of 24", t.best(2), 24);
        Check.same("the ANSWER", Check.answer(t), ALL_24);
        Check.same("the first of 24", t.best(0), 1);
        Check.same("the ANSWER is shorter then", Check.answer(t), "0");
        Check.same("the last of 24", t.best(1), 1);
        Check.same("the ANSWER", Check.answer(t), "23");
        t.condition(0, 2, LEAST);
        Check.same("none that passes", t.best(2), 0);
        Check.same("the ANSWER is empty again", Check.answer(t), "");
    }

    private static void bestByRisingNumbers() {
        PreferTable t = Bounds.afterRows(120, 24);
        addNodes(t);
        t.remove(100);
        t.change(119, 0, LEAST);
        t.change(96, 0, LEAST);
        t.change(101, 0, LEAST);
        Check.same("best", t.best(0), 3);
        Check.same("the ANSWER", Check.answer(t), "96 101 119");
        Check.same("the rest", t.best(2), 23);
        Check.same("the first", t.answer(0), 96);
        Check.same("the last", t.answer(22), 119);
    }

    private static void bestByNoSuchNode() {
        PreferTable t = full();
        t.best(1);
        for (int node : Bounds.outside(2)) {
            Check.outside("best(" + node + ")", () -> t.best(node));
        }
        Check.same("the ANSWER is as it was", Check.answer(t), "23");
        Check.same("node 2", t.best(2), 24);
    }

    private static void oneGroupAndManyGroups() {
        for (int column = 1; column < 4; column++) {
            PreferTable t = full();
            Check.same("24 groups", t.grouped(0, column), 24);
            Check.same("the ANSWER", Check.answer(t), ALL_24);
            Check.same("24 groups, HIGH", t.grouped(1, column), 24);
            Check.same("the ANSWER", Check.answer(t), ALL_24);
            for (int row = 0; row < 24; row++) {
                t.change(row, column, row < 12 ? LEAST : GREATEST);
            }
            Check.same("two groups", t.grouped(0, column), 2);
            Check.same("the ANSWER", Check.answer(t), "0 12");
            Check.same("two groups, HIGH", t.grouped(1, column), 2);
            Check.same("the ANSWER", Check.answer(t), "11 23");
            for (int row = 0; row < 24; row++) {
                t.change(row, column, -1);
            }
            Check.same("one group", t.grouped(0, column), 1);
            Check.same("the ANSWER", Check.answer(t), "0");
        }
        PreferTable t = full();
        Check.same("groups of rows that are SAME", t.grouped(0, 0), 24);
        PreferTable none = new PreferTable();
        addNodes(none);
        Check.same("no groups", none.grouped(0, 0), 0);
        Check.same("the ANSWER", Check.answer(none), "");
    }

    private static void groupsByRisingNumbers() {
        PreferTable t = full();
        for (int row = 0; row < 24; row++) {
            t.change(row, 3, -row % 3);
        }
        Check.same("HIGH in three groups", t.grouped(1, 3), 3);
        Check.same("the ANSWER", Check.answer(t), "21 22 23");
        t.condition(3, 1, 0);
        Check.same("a group of which none passes", t.grouped(1, 3), 2);
        Check.same("the ANSWER", Check.answer(t), "22 23");
        t.condition(0, 2, 23);
        Check.same("the BEST of those that pass", t.grouped(1, 3), 2);
        Check.same("the ANSWER", Check.answer(t), "20 22");
        t.condition(0, 2, 1);
        Check.same("none passes", t.grouped(1, 3), 0);
    }

    private static void groupedByNoSuchNode() {
        PreferTable t = full();
        t.best(1);
        for (int node : Bounds.outside(2)) {
            Check.outside("grouped(" + node + ", 0)", () -> t.grouped(node, 0));
            Check.outside("grouped(" + node + ", 3)", () -> t.grouped(node, 3));
        }
        Check.outside("no such node, no such column", () -> t.grouped(3, 4));
        Check.same("the ANSWER is as it was", Check.answer(t), "23");
    }

    private static void groupedByNoSuchColumn() {
        PreferTable t = full();
        t.best(1);
        for (int column : Bounds.outside(3)) {
            Check.outside("grouped(0, " + column + ")", () -> t.grouped(0, column));
            Check.outside("grouped(2, " + column + ")", () -> t.grouped(2, column));
        }
        Check.same("the ANSWER is as it was", Check.answer(t), "23");
    }

    private static void everyN() {
        PreferTable t = full();
        for (int n = 0; n <= 24; n++) {
            Check.same("top(1, " + n + ")", t.top(1, n), n);
            Check.same("answer(-1)", t.answer(-1), n);
            Check.same("the first", t.answer(0), n == 0 ? -1 : 23);
            Check.same("the last", t.answer(n - 1), n == 0 ? 0 : 24 - n);
            Check.none("past the last", t.answer(n));
        }
        Check.same("top(1, 0) after more", t.top(1, 0), 0);
        Check.same("the ANSWER is empty again", Check.answer(t), "");
    }

    private static void byLevelThenByNumber() {
        PreferTable t = Bounds.tableOf(0, 7, 5, 7, 5, 6, LEAST, GREATEST);
        addNodes(t);
        t.top(0, 7);
        Check.same("LOW", Check.answer(t), "5 1 3 4 0 2 6");
        t.top(1, 7);
        Check.same("HIGH", Check.answer(t), "6 0 2 4 1 3 5");
        t.top(2, 7);
        Check.same("all of LEVEL 1", Check.answer(t), "0 1 2 3 4 5 6");
        t.top(1, 2);
        Check.same("cut within LEVEL 2", Check.answer(t), "6 0");
        t.remove(0);
        t.row(7, 0, 0, 0);
        t.top(1, 3);
        Check.same("by number, not by age of the place", Check.answer(t), "6 2 7");
    }

    private static void fewerRows() {
        PreferTable t = Bounds.withRows(3);
        addNodes(t);
        Check.same("top(0, 3)", t.top(0, 3), 3);
        Check.same("top(0, 4)", t.top(0, 4), 3);
        Check.same("top(0, 24)", t.top(0, 24), 3);
        Check.same("top(0, 25)", t.top(0, 25), 3);
        Check.same("top(0, greatest)", t.top(0, GREATEST), 3);
        Check.same("the ANSWER", Check.answer(t), "0 1 2");
        t.condition(0, 4, 0);
        Check.same("two pass", t.top(0, 3), 2);
        Check.same("the ANSWER", Check.answer(t), "1 2");
        t.condition(0, 4, 2);
        Check.same("none passes", t.top(0, 3), 0);
        PreferTable full = full();
        Check.same("top(2, 25) of 24", full.top(2, 25), 24);
        Check.same("top(2, greatest) of 24", full.top(2, GREATEST), 24);
        PreferTable none = new PreferTable();
        addNodes(none);
        Check.same("top(0, 1) of none", none.top(0, 1), 0);
        Check.same("top(0, 0) of none", none.top(0, 0), 0);
    }

    private static void topByNoSuchNode() {
        PreferTable t = full();
        t.best(1);
        for (int node : Bounds.outside(2)) {
            for (int n : new int[] {0, 1, 24, GREATEST}) {
                Check.outside("top(" + node + ", " + n + ")", () -> t.top(node, n));
            }
        }
        Check.same("the ANSWER is as it was", Check.answer(t), "23");
    }

    private static void nBelow0() {
        PreferTable t = full();
        t.best(1);
        for (int n : new int[] {LEAST, LEAST + 1, -24, -2, -1}) {
            Check.badArgument("top(0, " + n + ")", () -> t.top(0, n));
            Check.badArgument("top(2, " + n + ")", () -> t.top(2, n));
        }
        Check.same("the ANSWER is as it was", Check.answer(t), "23");
        Check.same("top(0, 0)", t.top(0, 0), 0);
        PreferTable none = new PreferTable();
        addNodes(none);
        Check.badArgument("also of no rows", () -> none.top(0, -1));
    }

    private static void leastAndGreatestLevel() {
        PreferTable t = full();
        for (int row = 0; row < 24; row++) {
            Check.same("level(0, " + row + ")", t.level(0, row), row + 1);
            Check.same("level(1, " + row + ")", t.level(1, row), 24 - row);
            Check.same("level(2, " + row + ")", t.level(2, row), 1);
        }
        PreferTable one = Bounds.withRows(1);
        addNodes(one);
        Check.same("of the only row", one.level(0, 0), 1);
    }

    private static void levelOfRowThatDoesNotPass() {
        PreferTable t = full();
        t.condition(0, 1, 0);
        Check.same("the best one does not pass", t.level(0, 0), 0);
        Check.same("the next one is at LEVEL 1", t.level(0, 1), 1);
        t.condition(0, 1, 23);
        Check.same("the last one does not pass", t.level(0, 23), 0);
        Check.same("the one before it", t.level(0, 22), 22);
        t.condition(0, 2, LEAST);
        for (int row = 0; row < 24; row++) {
            Check.same("none passes", t.level(2, row), 0);
        }
        t.free();
        Check.same("all pass again", t.level(0, 0), 1);
    }

    private static void levelByNoSuchNode() {
        PreferTable t = full();
        for (int node : Bounds.outside(2)) {
            Check.outside("level(" + node + ", 0)", () -> t.level(node, 0));
        }
        t.condition(0, 2, LEAST);
        Check.outside("also of a row that does not pass", () -> t.level(3, 0));
    }

    private static void levelOfNoSuchRow() {
        PreferTable t = Bounds.afterRows(120, 24);
        addNodes(t);
        for (int row : Bounds.outside(119)) {
            Check.outside("level(0, " + row + ")", () -> t.level(0, row));
        }
        Check.outside("of the last that went", () -> t.level(0, 95));
        Check.outside("of the first that went", () -> t.level(0, 0));
        Check.same("of the first that is there", t.level(0, 96), 1);
        Check.same("of the last that is there", t.level(0, 119), 24);
        PreferTable none = new PreferTable();
        addNodes(none);
        Check.outside("of no rows", () -> none.level(0, 0));
    }

    private static void firstAndLastOfAnswer() {
        PreferTable t = full();
        t.top(1, 24);
        for (int i = 0; i < 24; i++) {
            Check.same("answer(" + i + ")", t.answer(i), 23 - i);
        }
        t.remove(23);
        t.remove(0);
        Check.same("rows that are gone stay in it", t.answer(0), 23);
        Check.same("rows that are gone stay in it", t.answer(23), 0);
    }

    private static void howMany() {
        PreferTable t = full();
        Check.same("at first", t.answer(-1), 0);
        t.best(2);
        Check.same("24", t.answer(-1), 24);
        t.best(0);
        Check.same("1", t.answer(-1), 1);
        t.top(0, 0);
        Check.same("0", t.answer(-1), 0);
        t.grouped(0, 1);
        Check.same("24 again", t.answer(-1), 24);
        t.remove(5);
        Check.same("24 still", t.answer(-1), 24);
    }

    private static void noneSuch() {
        PreferTable t = full();
        int[] never = {LEAST, LEAST + 1, -3, -2, 24, 25, 31, 32, GREATEST};
        for (int i : never) {
            Check.none("answer(" + i + ") at first", t.answer(i));
        }
        t.best(2);
        for (int i : never) {
            Check.none("answer(" + i + ") of 24", t.answer(i));
        }
        t.best(0);
        for (int i = 1; i < 24; i++) {
            Check.none("answer(" + i + ") of 1", t.answer(i));
        }
        t.top(0, 0);
        Check.none("answer(0) of 0", t.answer(0));
    }
}
