/** CONDITIONS, and promises 10 and 11, at their bounds: a test for each sentence. */
public final class ConditionBoundsTest {
    private static final int LEAST = Bounds.LEAST;
    private static final int GREATEST = Bounds.GREATEST;

    public static void main(String[] args) {
        Check.sentence("CONDITIONS, at most 4", ConditionBoundsTest::atMost4);
        Check.sentence("a column, an operation 0 =, 1 not =, 2 <, 3 <=, 4 >, 5 >=, and a number",
            ConditionBoundsTest::operationsRoundANumber);
        Check.sentence("and a number (the least and the greatest)", ConditionBoundsTest::atTheEnds);
        Check.sentence("A row PASSES if all hold", ConditionBoundsTest::eachOneCounts);
        Check.sentence("A row PASSES if all hold (there are none)",
            ConditionBoundsTest::noneToHold);
        Check.sentence("10: One more condition: how many there are",
            ConditionBoundsTest::countsThoseThatAreThere);
        Check.sentence("10: IllegalArgumentException if there is no such column",
            ConditionBoundsTest::noSuchColumn);
        Check.sentence("10: IllegalArgumentException if there is no such .. operation",
            ConditionBoundsTest::noSuchOperation);
        Check.sentence("10: IllegalStateException if there are 4",
            ConditionBoundsTest::noConditionBeside4);
        Check.sentence("11: There are no conditions any more", ConditionBoundsTest::freed);
        Check.end();
    }

    /** Rows with these values in a column; node 0 is a GRAPH without edges, so all are BEST. */
    private static PreferTable tableOf(int column, int... values) {
        PreferTable t = Bounds.tableOf(column, values);
        t.order(5, 0, 0, 0);
        return t;
    }

    private static String passing(PreferTable t) {
        t.best(0);
        return Check.answer(t);
    }

    private static void atMost4() {
        PreferTable t = tableOf(0, 1, 2, 3, 4, 5, 6);
        for (int i = 1; i <= 4; i++) {
            Check.same("condition", t.condition(0, 1, i), i);
        }
        Check.same("all four hold", passing(t), "4 5");
        Check.badState("the fifth", () -> t.condition(0, 1, 5));
        Check.same("it has not come", passing(t), "4 5");
    }

    private static void operationsRoundANumber() {
        String[] due = {"1", "0 2", "0", "0 1", "2", "1 2"};
        for (int number : new int[] {LEAST + 1, -1, 0, 1, GREATEST - 1}) {
            for (int operation = 0; operation < 6; operation++) {
                for (int column = 0; column < 4; column++) {
                    PreferTable t = tableOf(column, number - 1, number, number + 1);
                    t.condition(column, operation, number);
                    String text = "operation " + operation + " with " + number;
                    Check.same(text, passing(t), due[operation]);
                }
            }
        }
    }

    /** Rows with the least, a middle and the greatest value, against the least and the greatest. */
    private static void atTheEnds() {
        String[] dueLeast = {"0", "1 2", "", "0", "1 2", "0 1 2"};
        String[] dueGreatest = {"2", "0 1", "0 1", "0 1 2", "", "2"};
        for (int operation = 0; operation < 6; operation++) {
            PreferTable least = tableOf(3, LEAST, 0, GREATEST);
            least.condition(3, operation, LEAST);
            Check.same("operation " + operation + " with the least", passing(least),
                dueLeast[operation]);
            PreferTable greatest = tableOf(3, LEAST, 0, GREATEST);
            greatest.condition(3, operation, GREATEST);
            Check.same("operation " + operation + " with the greatest", passing(greatest),
                dueGreatest[operation]);
        }
    }

    /** Row i fails in the condition on column i alone; row 4 fails in none. */
    private static void eachOneCounts() {
        PreferTable t = new PreferTable();
        t.order(5, 0, 0, 0);
        t.row(8, 1, 1, 1);
        t.row(1, 8, 1, 1);
        t.row(1, 1, 8, 1);
        t.row(1, 1, 1, 8);
        t.row(1, 1, 1, 1);
        String[] due = {"1 2 3 4", "2 3 4", "3 4", "4"};
        for (int column = 0; column < 4; column++) {
            t.condition(column, 2, 8);
            Check.same("with " + (column + 1), passing(t), due[column]);
        }
        for (int row = 0; row < 5; row++) {
            Check.same("level(0, " + row + ")", t.level(0, row), row == 4 ? 1 : 0);
        }
        PreferTable against = tableOf(0, 1, 2, 3);
        against.condition(0, 0, 1);
        against.condition(0, 0, 2);
        Check.same("two that no row can meet", passing(against), "");
    }

    private static void noneToHold() {
        PreferTable t = tableOf(2, LEAST, -1, 0, GREATEST);
        Check.same("all pass", passing(t), "0 1 2 3");
    }

    private static void countsThoseThatAreThere() {
        PreferTable t = tableOf(0, 1, 2);
        Check.same("the first", t.condition(0, 0, LEAST), 1);
        Check.same("the same once more counts", t.condition(0, 0, LEAST), 2);
        Check.same("the third", t.condition(3, 5, GREATEST), 3);
        Check.same("the last", t.condition(3, 5, 0), 4);
        t.free();
        Check.same("from 1 again", t.condition(0, 0, 1), 1);
        Check.same("only that one holds", passing(t), "0");
    }

    private static void noSuchColumn() {
        PreferTable t = tableOf(0, 1, 2);
        for (int column : Bounds.outside(3)) {
            for (int operation = 0; operation < 6; operation++) {
                int o = operation;
                Check.badArgument("condition(" + column + ", " + o + ", 7)",
                    () -> t.condition(column, o, 7));
            }
        }
        Check.same("none has come", passing(t), "0 1");
        Check.same("column 0", t.condition(0, 5, LEAST), 1);
        Check.same("column 3", t.condition(3, 5, LEAST), 2);
    }

    private static void noSuchOperation() {
        PreferTable t = tableOf(0, 1, 2);
        for (int operation : Bounds.outside(5)) {
            Check.badArgument("condition(0, " + operation + ", 7)",
                () -> t.condition(0, operation, 7));
            Check.badArgument("condition(3, " + operation + ", 7)",
                () -> t.condition(3, operation, 7));
        }
        Check.badArgument("no such column, no such operation", () -> t.condition(4, 6, 7));
        Check.same("none has come", passing(t), "0 1");
        Check.same("operation 0", t.condition(0, 0, 2), 1);
        Check.same("operation 5", t.condition(0, 5, 2), 2);
        Check.same("they hold for row 1", passing(t), "1");
    }

    private static void noConditionBeside4() {
        PreferTable t = tableOf(0, 1, 2);
        for (int i = 0; i < 4; i++) {
            t.condition(0, 0, 2);
        }
        Check.badState("another one", () -> t.condition(0, 0, 1));
        Check.badState("the same one", () -> t.condition(0, 0, 2));
        Check.badState("least", () -> t.condition(3, 5, LEAST));
        Check.badState("greatest", () -> t.condition(3, 5, GREATEST));
        Check.same("the four hold still", passing(t), "1");
        t.free();
        Check.same("there is room again", t.condition(0, 0, 1), 1);
        Check.same("row 0 passes", passing(t), "0");
    }

    private static void freed() {
        PreferTable t = tableOf(0, 1, 2);
        t.free();
        Check.same("none were there", passing(t), "0 1");
        t.condition(0, 0, 1);
        t.save(0, 0);
        Check.same("one is there", passing(t), "0");
        t.free();
        Check.same("the ANSWER stays", Check.answer(t), "0");
        Check.same("a saved question keeps its own", Check.saved(t, 0, 0), "0");
        Check.same("all pass", passing(t), "0 1");
        for (int i = 0; i < 4; i++) {
            t.condition(i, 0, 77);
        }
        Check.same("four are there", passing(t), "");
        t.free();
        t.free();
        Check.same("freed twice", passing(t), "0 1");
        Check.same("level", t.level(0, 1), 1);
    }
}
