/** Promises 1 to 5: a new object, row, change, remove, value. */
public final class RowsTest {
    public static void main(String[] args) {
        newObjectIsEmpty();
        rowsAreNumberedInTurn();
        valuesChange();
        rowsGoForGood();
        only24AreThereAtOneTime();
        only120AreMade();
        Check.end();
    }

    private static void newObjectIsEmpty() {
        PreferTable t = new PreferTable();
        Check.same("NONE", PreferTable.NONE, -1);
        Check.outside("value(0, 0)", () -> t.value(0, 0));
        Check.no("remove(0)", t.remove(0));
        Check.outside("best(0)", () -> t.best(0));
        Check.outside("form(0)", () -> t.form(0));
        Check.same("the ANSWER", Check.answer(t), "");
        Check.same("answer(-1)", t.answer(-1), 0);
        for (int s = -1; s <= 4; s++) {
            Check.same("saved(s, 0, -1)", t.saved(s, 0, -1), PreferTable.NONE);
            Check.no("read(s)", t.read(s));
        }
        Check.same("the first condition", t.condition(0, 0, 0), 1);
        Check.same("the first node", t.order(0, 0, 0, 0), 0);
        Check.same("the first row", t.row(0, 0, 0, 0), 0);
        PreferTable other = new PreferTable();
        Check.outside("another object has its own rows", () -> other.value(0, 0));
    }

    private static void rowsAreNumberedInTurn() {
        PreferTable t = new PreferTable();
        Check.same("row", t.row(1, -2, Integer.MAX_VALUE, Integer.MIN_VALUE), 0);
        Check.same("row", t.row(5, 6, 7, 8), 1);
        Check.same("value(0, 0)", t.value(0, 0), 1);
        Check.same("value(0, 1)", t.value(0, 1), -2);
        Check.same("value(0, 2)", t.value(0, 2), Integer.MAX_VALUE);
        Check.same("value(0, 3)", t.value(0, 3), Integer.MIN_VALUE);
        Check.same("value(1, 0)", t.value(1, 0), 5);
        Check.same("value(1, 3)", t.value(1, 3), 8);
        Check.outside("value(2, 0)", () -> t.value(2, 0));
        Check.outside("value(-1, 0)", () -> t.value(-1, 0));
        Check.outside("value(0, 4)", () -> t.value(0, 4));
        Check.outside("value(0, -1)", () -> t.value(0, -1));
    }

    private static void valuesChange() {
        PreferTable t = new PreferTable();
        t.row(1, 2, 3, 4);
        t.row(5, 6, 7, 8);
        Check.yes("change(1, 2, -9)", t.change(1, 2, -9));
        Check.same("value(1, 2)", t.value(1, 2), -9);
        Check.same("value(1, 1)", t.value(1, 1), 6);
        Check.same("value(0, 2)", t.value(0, 2), 3);
        Check.yes("change to the same", t.change(1, 2, -9));
        Check.no("change(2, 0, 0)", t.change(2, 0, 0));
        Check.no("change(-1, 0, 0)", t.change(-1, 0, 0));
        Check.no("change(0, 4, 0)", t.change(0, 4, 0));
        Check.no("change(0, -1, 0)", t.change(0, -1, 0));
        Check.same("value(0, 0)", t.value(0, 0), 1);
        Check.same("value(0, 3)", t.value(0, 3), 4);
    }

    private static void rowsGoForGood() {
        PreferTable t = new PreferTable();
        t.row(1, 1, 1, 1);
        t.row(2, 2, 2, 2);
        t.row(3, 3, 3, 3);
        Check.yes("remove(1)", t.remove(1));
        Check.no("remove(1) again", t.remove(1));
        Check.no("remove(3)", t.remove(3));
        Check.no("remove(-1)", t.remove(-1));
        Check.outside("value(1, 0)", () -> t.value(1, 0));
        Check.no("change(1, 0, 0)", t.change(1, 0, 0));
        Check.same("value(0, 3)", t.value(0, 3), 1);
        Check.same("value(2, 0)", t.value(2, 0), 3);
        Check.same("its number does not come back", t.row(4, 4, 4, 4), 3);
        Check.outside("value(1, 0) still", () -> t.value(1, 0));
        Check.yes("remove(3)", t.remove(3));
        Check.same("nor does the last one's", t.row(5, 5, 5, 5), 4);
        Check.same("value(4, 1)", t.value(4, 1), 5);
    }

    private static void only24AreThereAtOneTime() {
        PreferTable t = new PreferTable();
        for (int i = 0; i < 24; i++) {
            Check.same("row", t.row(i, 0, 0, 0), i);
        }
        Check.badState("row 25 at one time", () -> t.row(0, 0, 0, 0));
        t.remove(7);
        Check.same("one refused took no number", t.row(99, 0, 0, 0), 24);
        Check.badState("full again", () -> t.row(0, 0, 0, 0));
        Check.same("value(23, 0)", t.value(23, 0), 23);
        Check.same("value(24, 0)", t.value(24, 0), 99);
    }

    private static void only120AreMade() {
        PreferTable t = new PreferTable();
        for (int i = 0; i < 120; i++) {
            Check.same("row", t.row(i, 0, 0, 0), i);
            if (i > 0) {
                t.remove(i - 1);
            }
        }
        Check.badState("row 121", () -> t.row(0, 0, 0, 0));
        Check.same("value(119, 0)", t.value(119, 0), 119);
        t.remove(119);
        Check.badState("row 121 of an empty table", () -> t.row(0, 0, 0, 0));
    }
}
