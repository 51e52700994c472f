/** ROWS, and promises 1 to 5, at their bounds: a test for each sentence. */
public final class RowBoundsTest {
    private static final int LEAST = Bounds.LEAST;
    private static final int GREATEST = Bounds.GREATEST;

    public static void main(String[] args) {
        Check.sentence("ROWS have the numbers 0, 1, .. in the order in which they were made",
            RowBoundsTest::numberedInTurn);
        Check.sentence("at most 120 in all", RowBoundsTest::atMost120InAll);
        Check.sentence("at most 24 are there at one time", RowBoundsTest::atMost24AtOneTime);
        Check.sentence("a number does not come back", RowBoundsTest::numbersDoNotComeBack);
        Check.sentence("A row has a VALUE, an int, in each of the COLUMNS 0 .. 3",
            RowBoundsTest::anyIntInEachColumn);
        Check.sentence("The constants: `NONE = -1`: There is none", RowBoundsTest::noneIsMinusOne);
        newObject();
        Check.sentence("2: A new row: its number", RowBoundsTest::newRowByItsNumber);
        Check.sentence("2: IllegalStateException if there were 120", RowBoundsTest::noRowAfter120);
        Check.sentence("2: IllegalStateException if .. 24 are there", RowBoundsTest::noRowBeside24);
        Check.sentence("3: A row's value in a column becomes v: true",
            RowBoundsTest::oneCellChanges);
        Check.sentence("3: false if there is no such row", RowBoundsTest::changeOfNoSuchRow);
        Check.sentence("3: false if there is no such .. column",
            RowBoundsTest::changeInNoSuchColumn);
        Check.sentence("4: The row goes: true", RowBoundsTest::rowGoes);
        Check.sentence("4: false if there is none such", RowBoundsTest::removeOfNoSuchRow);
        Check.sentence("5: What a row has in a column", RowBoundsTest::valueOfFirstAndLast);
        Check.sentence("5: IndexOutOfBoundsException if there is no such row",
            RowBoundsTest::valueOfNoSuchRow);
        Check.sentence("5: IndexOutOfBoundsException if there is no such .. column",
            RowBoundsTest::valueInNoSuchColumn);
        Check.end();
    }

    private static void newObject() {
        Check.sentence("1: No rows", RowBoundsTest::newHasNoRows);
        Check.sentence("1: No .. nodes", RowBoundsTest::newHasNoNodes);
        Check.sentence("1: No .. conditions", RowBoundsTest::newHasNoConditions);
        Check.sentence("1: nothing saved", RowBoundsTest::newHasNothingSaved);
        Check.sentence("1: A new object (no ANSWER, no FORM)",
            RowBoundsTest::newHasNoAnswerNorForm);
        Check.sentence("1: A new object (beside one that is full)", RowBoundsTest::newBesideFull);
    }

    private static void numberedInTurn() {
        PreferTable t = new PreferTable();
        for (int i = 0; i < 24; i++) {
            Check.same("row", t.row(-i, 0, 0, 0), i);
        }
        for (int i = 0; i < 24; i++) {
            Check.same("value(" + i + ", 0)", t.value(i, 0), -i);
        }
    }

    private static void atMost120InAll() {
        PreferTable t = Bounds.afterRows(119, 1);
        Check.same("row 120", t.row(7, 7, 7, 7), 119);
        Check.same("is there", t.value(119, 3), 7);
        Check.badState("row 121", () -> t.row(7, 7, 7, 7));
        Check.same("row 120 is there still", t.value(119, 3), 7);
        Check.outside("no row 120 has come", () -> t.value(120, 0));
    }

    private static void atMost24AtOneTime() {
        PreferTable t = Bounds.withRows(23);
        Check.same("the 24th", t.row(7, 7, 7, 7), 23);
        Check.badState("the 25th", () -> t.row(8, 8, 8, 8));
        Check.outside("it has not come", () -> t.value(24, 0));
        for (int i = 0; i < 24; i++) {
            Check.same("row " + i + " is there still", t.value(i, 1), i < 23 ? i : 7);
        }
        t.order(5, 0, 0, 0);
        Check.same("24 are BEST", t.best(0), 24);
    }

    private static void numbersDoNotComeBack() {
        PreferTable t = Bounds.withRows(3);
        t.remove(0);
        Check.same("after the first went", t.row(5, 5, 5, 5), 3);
        Check.outside("0 is gone still", () -> t.value(0, 0));
        t.remove(3);
        Check.same("after the last went", t.row(6, 6, 6, 6), 4);
        Check.outside("3 is gone still", () -> t.value(3, 0));
        t.remove(1);
        t.remove(2);
        t.remove(4);
        Check.same("after all went", t.row(7, 7, 7, 7), 5);
        for (int i = 0; i < 5; i++) {
            int gone = i;
            Check.outside("value(" + i + ", 0)", () -> t.value(gone, 0));
        }
        Check.same("value(5, 0)", t.value(5, 0), 7);
    }

    private static void anyIntInEachColumn() {
        PreferTable t = new PreferTable();
        t.row(LEAST, GREATEST, LEAST, GREATEST);
        t.row(GREATEST, LEAST, GREATEST, LEAST);
        for (int column = 0; column < 4; column++) {
            int first = column % 2 == 0 ? LEAST : GREATEST;
            Check.same("value(0, " + column + ")", t.value(0, column), first);
            Check.same("value(1, " + column + ")", t.value(1, column), -1 - first);
            Check.yes("change to the other end", t.change(0, column, -1 - first));
            Check.same("value(0, " + column + ") then", t.value(0, column), -1 - first);
        }
    }

    private static void noneIsMinusOne() {
        Check.same("NONE", PreferTable.NONE, -1);
        PreferTable t = Bounds.withRows(2);
        t.order(0, 0, 0, 0);
        Check.same("a row of an empty ANSWER", t.answer(0), PreferTable.NONE);
        Check.same("a reason that there is not", t.reason(0, 1, 0, 0), PreferTable.NONE);
        Check.same("a question that there is not", t.saved(0, 0, -1), PreferTable.NONE);
    }

    /** The number that row() answers is the one by which all other calls know the row. */
    private static void newRowByItsNumber() {
        PreferTable t = new PreferTable();
        t.order(0, 3, 0, 0);
        for (int i = 0; i < 10; i++) {
            int row = t.row(i, -i, i * i, 9 - i);
            Check.same("its value in column 0", t.value(row, 0), i);
            Check.same("its value in column 1", t.value(row, 1), -i);
            Check.same("its value in column 2", t.value(row, 2), i * i);
            Check.same("its value in column 3", t.value(row, 3), 9 - i);
            Check.same("its LEVEL", t.level(0, row), 1);
            Check.same("it is BEST", t.best(0), 1);
            Check.same("by its number", t.answer(0), row);
            if (i % 3 == 0) {
                Check.yes("it goes by its number", t.remove(row));
            }
        }
    }

    private static void newHasNoRows() {
        PreferTable t = new PreferTable();
        for (int row : new int[] {LEAST, -1, 0, 1, 23, 24, 119, 120, GREATEST}) {
            Check.no("change(" + row + ", 0, 0)", t.change(row, 0, 0));
            Check.no("remove(" + row + ")", t.remove(row));
            Check.outside("value(" + row + ", 0)", () -> t.value(row, 0));
        }
        t.order(0, 0, 0, 0);
        Check.same("best", t.best(0), 0);
        Check.same("grouped", t.grouped(0, 0), 0);
        Check.same("top", t.top(0, 24), 0);
        Check.outside("compare", () -> t.compare(0, 0, 0));
        Check.outside("level", () -> t.level(0, 0));
        Check.outside("reason", () -> t.reason(0, 0, 0, 0));
        Check.same("save", t.save(0, 0), 0);
    }

    private static void newHasNoNodes() {
        PreferTable t = Bounds.withRows(2);
        for (int node : new int[] {LEAST, -1, 0, 1, 23, 24, GREATEST}) {
            Check.no("layer", t.layer(node, 0, 0));
            Check.badArgument("edge", () -> t.edge(node, 0, 1));
            for (int kind = 6; kind <= 9; kind++) {
                int k = kind;
                Check.badArgument("term", () -> t.term(k, node, node));
            }
            Check.outside("compare", () -> t.compare(node, 0, 1));
            Check.outside("best", () -> t.best(node));
            Check.outside("grouped", () -> t.grouped(node, 0));
            Check.outside("top", () -> t.top(node, 1));
            Check.outside("level", () -> t.level(node, 0));
            Check.outside("reason", () -> t.reason(node, 0, 1, 0));
            Check.outside("save", () -> t.save(0, node));
            Check.outside("reduce", () -> t.reduce(node));
        }
        Check.same("the first node", t.order(0, 0, 0, 0), 0);
    }

    private static void newHasNoConditions() {
        PreferTable t = new PreferTable();
        t.order(5, 0, 0, 0);
        t.row(LEAST, LEAST, LEAST, LEAST);
        t.row(GREATEST, GREATEST, GREATEST, GREATEST);
        t.row(0, 0, 0, 0);
        Check.same("all pass", t.best(0), 3);
        Check.same("the first condition", t.condition(0, 5, LEAST), 1);
    }

    private static void newHasNothingSaved() {
        PreferTable t = new PreferTable();
        t.order(0, 0, 0, 0);
        t.row(0, 0, 0, 0);
        for (int s = -1; s <= 4; s++) {
            Check.no("read(" + s + ")", t.read(s));
            for (int w = -1; w <= 3; w++) {
                Check.none("saved(" + s + ", " + w + ", -1)", t.saved(s, w, -1));
                Check.none("saved(" + s + ", " + w + ", 0)", t.saved(s, w, 0));
            }
        }
    }

    private static void newHasNoAnswerNorForm() {
        PreferTable t = new PreferTable();
        Check.same("answer(-1)", t.answer(-1), 0);
        Check.none("answer(0)", t.answer(0));
        for (int k : new int[] {LEAST, -1, 0, 1, GREATEST}) {
            Check.outside("form(" + k + ")", () -> t.form(k));
        }
    }

    private static void newBesideFull() {
        PreferTable full = Tables.full();
        PreferTable t = new PreferTable();
        Check.outside("value", () -> t.value(0, 0));
        Check.outside("best", () -> t.best(0));
        Check.same("answer(-1)", t.answer(-1), 0);
        Check.none("saved", t.saved(0, 0, -1));
        Check.outside("form", () -> t.form(0));
        Check.same("row", t.row(1, 1, 1, 1), 0);
        Check.same("order", t.order(5, 0, 0, 0), 0);
        Check.yes("edge", t.edge(0, 0, 1));
        Check.same("condition", t.condition(0, 0, 1), 1);
        Check.badState("the other one is full still", () -> full.row(0, 0, 0, 0));
    }

    private static void noRowAfter120() {
        for (int there : new int[] {0, 1, 23, 24}) {
            PreferTable t = Bounds.afterRows(120, there);
            Check.badState("with " + there + " there", () -> t.row(0, 0, 0, 0));
            Check.badState("least and greatest", () -> t.row(LEAST, GREATEST, LEAST, GREATEST));
            Check.no("none has come", t.remove(120));
        }
        PreferTable last = Bounds.afterRows(119, 23);
        Check.same("the last of 120, the last of 24", last.row(0, 0, 0, 0), 119);
        Check.badState("the next", () -> last.row(0, 0, 0, 0));
    }

    private static void noRowBeside24() {
        for (int made : new int[] {24, 25, 119}) {
            PreferTable t = Bounds.afterRows(made, 24);
            Check.badState("after " + made, () -> t.row(0, 0, 0, 0));
            Check.badState("again", () -> t.row(LEAST, GREATEST, LEAST, GREATEST));
            t.remove(made - 24);
            Check.same("when one has gone", t.row(0, 0, 0, 0), made);
            Check.badState("full again", () -> t.row(0, 0, 0, 0));
        }
    }

    private static void oneCellChanges() {
        for (int row = 0; row < 24; row += 23) {
            for (int column = 0; column < 4; column++) {
                PreferTable t = Bounds.withRows(24);
                Check.yes("change", t.change(row, column, LEAST));
                for (int i = 0; i < 96; i++) {
                    boolean isIt = i / 4 == row && i % 4 == column;
                    Check.same("value(" + i / 4 + ", " + i % 4 + ")", t.value(i / 4, i % 4),
                        isIt ? LEAST : i / 4);
                }
                Check.yes("change to what it is", t.change(row, column, LEAST));
                Check.yes("change to the greatest", t.change(row, column, GREATEST));
                Check.same("the greatest", t.value(row, column), GREATEST);
            }
        }
    }

    private static void changeOfNoSuchRow() {
        PreferTable t = Bounds.afterRows(120, 24);
        for (int row : Bounds.outside(119)) {
            Check.no("change(" + row + ", 0, 7)", t.change(row, 0, 7));
        }
        Check.no("the one that went last", t.change(95, 0, 7));
        Check.no("the one that went first", t.change(0, 0, 7));
        Check.no("no such row, no such column", t.change(120, 4, 7));
        Check.yes("the first that is there", t.change(96, 0, 7));
        Check.yes("the last that is there", t.change(119, 0, 7));
        for (int row = 97; row < 119; row++) {
            Check.same("value(" + row + ", 0)", t.value(row, 0), row);
        }
        PreferTable two = Bounds.withRows(2);
        Check.no("the next to be made", two.change(2, 0, 7));
        Check.yes("the last that was", two.change(1, 0, 7));
    }

    private static void changeInNoSuchColumn() {
        PreferTable t = Bounds.withRows(2);
        for (int column : Bounds.outside(3)) {
            Check.no("change(0, " + column + ", 7)", t.change(0, column, 7));
            Check.no("change(1, " + column + ", 7)", t.change(1, column, 7));
        }
        for (int column = 0; column < 4; column++) {
            Check.same("value(0, " + column + ")", t.value(0, column), 0);
            Check.same("value(1, " + column + ")", t.value(1, column), 1);
        }
    }

    private static void rowGoes() {
        for (int gone : new int[] {0, 1, 12, 22, 23}) {
            PreferTable t = Bounds.withRows(24);
            Check.yes("remove(" + gone + ")", t.remove(gone));
            for (int i = 0; i < 24; i++) {
                int row = i;
                if (i == gone) {
                    Check.outside("value(" + i + ", 0)", () -> t.value(row, 0));
                } else {
                    Check.same("value(" + i + ", 0)", t.value(i, 0), i);
                    Check.same("value(" + i + ", 3)", t.value(i, 3), i);
                }
            }
        }
        PreferTable one = Bounds.withRows(1);
        Check.yes("the only one", one.remove(0));
        Check.outside("value(0, 0)", () -> one.value(0, 0));
    }

    private static void removeOfNoSuchRow() {
        PreferTable t = Bounds.withRows(2);
        for (int row : Bounds.outside(1)) {
            Check.no("remove(" + row + ")", t.remove(row));
        }
        Check.yes("the last", t.remove(1));
        Check.no("once more", t.remove(1));
        Check.yes("the first", t.remove(0));
        Check.no("once more", t.remove(0));
        Check.no("of an empty table", t.remove(2));
        PreferTable spent = Bounds.afterRows(120, 24);
        Check.no("the last that went", spent.remove(95));
        Check.no("past the last ever", spent.remove(120));
        Check.yes("the last ever", spent.remove(119));
    }

    private static void valueOfFirstAndLast() {
        PreferTable t = Bounds.afterRows(120, 24);
        for (int column = 0; column < 4; column++) {
            Check.same("value(96, " + column + ")", t.value(96, column), 96);
            Check.same("value(119, " + column + ")", t.value(119, column), 119);
        }
    }

    private static void valueOfNoSuchRow() {
        PreferTable t = Bounds.afterRows(120, 24);
        for (int row : Bounds.outside(119)) {
            Check.outside("value(" + row + ", 0)", () -> t.value(row, 0));
        }
        for (int row = 0; row < 96; row++) {
            int gone = row;
            Check.outside("value(" + row + ", 3)", () -> t.value(gone, 3));
        }
        PreferTable two = Bounds.withRows(2);
        Check.outside("the next to be made", () -> two.value(2, 0));
        Check.same("the last that was", two.value(1, 0), 1);
    }

    private static void valueInNoSuchColumn() {
        PreferTable t = Bounds.withRows(2);
        for (int column : Bounds.outside(3)) {
            Check.outside("value(0, " + column + ")", () -> t.value(0, column));
            Check.outside("value(1, " + column + ")", () -> t.value(1, column));
        }
        Check.outside("no such row, no such column", () -> t.value(2, 4));
    }
}
