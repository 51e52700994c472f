/** Promises 19 to 21: save, saved, read. */
public final class SavedTest {
    public static void main(String[] args) {
        keptUpWithRows();
        keptUpWithLayersAndEdges();
        keepsItsOwnConditions();
        readSetsTheMark();
        savedInPlaceOfAnother();
        fourQuestions();
        manyRowsComeAndGo();
        wrongArguments();
        Check.end();
    }

    /** Node 0 LOW of column 0, node 1 HIGH of column 1, node 2 PARETO of both; rows 0 to 2. */
    private static PreferTable table() {
        PreferTable t = new PreferTable();
        t.order(0, 0, 0, 0);
        t.order(1, 1, 0, 0);
        t.term(6, 0, 1);
        t.row(5, 5, 0, 0);
        t.row(7, 7, 0, 0);
        t.row(6, 4, 0, 0);
        return t;
    }

    private static void expect(PreferTable t, int s, String best, String come, String gone) {
        Check.same("BEST of question " + s, Check.saved(t, s, 0), best);
        Check.same("come in question " + s, Check.saved(t, s, 1), come);
        Check.same("gone in question " + s, Check.saved(t, s, 2), gone);
    }

    private static void keptUpWithRows() {
        PreferTable t = table();
        Check.same("save(0, 2)", t.save(0, 2), 2);
        expect(t, 0, "0 1", "", "");
        t.row(5, 6, 0, 0);
        expect(t, 0, "1 3", "3", "0");
        t.remove(3);
        expect(t, 0, "0 1", "", "");
        t.change(2, 1, 6);
        expect(t, 0, "0 1 2", "2", "");
        t.remove(1);
        expect(t, 0, "0 2", "2", "1");
        t.remove(0);
        t.remove(2);
        expect(t, 0, "", "", "0 1");
        t.row(0, 0, 0, 0);
        expect(t, 0, "4", "4", "0 1");
    }

    private static void keptUpWithLayersAndEdges() {
        PreferTable t = new PreferTable();
        t.order(4, 0, 0, 0);
        t.order(5, 0, 0, 0);
        t.row(0, 0, 0, 0);
        t.row(1, 0, 0, 0);
        t.term(9, 1, 0);
        t.save(0, 0);
        t.save(1, 2);
        expect(t, 0, "0 1", "", "");
        t.layer(0, 1, 3);
        expect(t, 0, "1", "", "0");
        t.layer(0, 0, 2);
        expect(t, 0, "0", "", "1");
        expect(t, 1, "0 1", "", "");
        t.edge(1, 0, 1);
        expect(t, 1, "1", "", "0");
        t.layer(0, 0, -1);
        t.layer(0, 1, -1);
        expect(t, 0, "0 1", "", "");
    }

    private static void keepsItsOwnConditions() {
        PreferTable t = table();
        t.condition(0, 4, 5);
        Check.same("save(0, 0)", t.save(0, 0), 1);
        expect(t, 0, "2", "", "");
        t.condition(1, 5, 7);
        Check.same("save(1, 0)", t.save(1, 0), 1);
        expect(t, 0, "2", "", "");
        expect(t, 1, "1", "", "");
        t.free();
        expect(t, 0, "2", "", "");
        t.condition(0, 0, 77);
        t.row(0, 99, 0, 0);
        t.row(6, 9, 0, 0);
        expect(t, 0, "2 4", "4", "");
        expect(t, 1, "4", "4", "1");
        t.change(2, 0, 5);
        expect(t, 0, "4", "4", "2");
    }

    private static void readSetsTheMark() {
        PreferTable t = table();
        t.save(0, 2);
        t.save(1, 2);
        t.row(1, 9, 0, 0);
        expect(t, 0, "3", "3", "0 1");
        Check.yes("read(0)", t.read(0));
        expect(t, 0, "3", "", "");
        expect(t, 1, "3", "3", "0 1");
        Check.yes("read(0) again", t.read(0));
        t.remove(3);
        expect(t, 0, "0 1", "0 1", "3");
        expect(t, 1, "0 1", "", "");
        t.row(1, 9, 0, 0);
        Check.yes("read without a look before", t.read(1));
        expect(t, 1, "4", "", "");
    }

    private static void savedInPlaceOfAnother() {
        PreferTable t = table();
        t.condition(0, 1, 5);
        t.save(0, 0);
        t.row(0, 0, 0, 0);
        t.free();
        Check.same("save(0, 1)", t.save(0, 1), 1);
        expect(t, 0, "1", "", "");
        t.remove(1);
        expect(t, 0, "0", "0", "1");
        Check.same("save(0, 0) with nothing between", t.save(0, 0), 1);
        expect(t, 0, "3", "", "");
        t.condition(0, 1, 0);
        Check.same("save(0, 0) with a condition", t.save(0, 0), 1);
        expect(t, 0, "0", "", "");
    }

    private static void fourQuestions() {
        PreferTable t = table();
        Check.no("read(3) before", t.read(3));
        Check.same("save(3, 1)", t.save(3, 1), 1);
        Check.yes("read(3)", t.read(3));
        Check.same("save(0, 0)", t.save(0, 0), 1);
        expect(t, 3, "1", "", "");
        expect(t, 0, "0", "", "");
        Check.same("question 1 is not SAVED", t.saved(1, 0, -1), PreferTable.NONE);
        Check.no("read(1)", t.read(1));
    }

    private static void manyRowsComeAndGo() {
        PreferTable t = new PreferTable();
        t.order(5, 0, 0, 0);
        for (int i = 0; i < 24; i++) {
            t.row(i, 0, 0, 0);
        }
        Check.same("save(0, 0)", t.save(0, 0), 24);
        for (int i = 0; i < 24; i++) {
            t.remove(i);
        }
        for (int i = 0; i < 24; i++) {
            t.row(i, 0, 0, 0);
        }
        Check.same("all are new", t.saved(0, 1, -1), 24);
        Check.same("the first of them", t.saved(0, 1, 0), 24);
        Check.same("all are gone", t.saved(0, 2, -1), 24);
        Check.same("the last of them", t.saved(0, 2, 23), 23);
        Check.same("past the last", t.saved(0, 2, 24), PreferTable.NONE);
    }

    private static void wrongArguments() {
        PreferTable t = table();
        t.save(0, 2);
        Check.outside("save(-1, 0)", () -> t.save(-1, 0));
        Check.outside("save(4, 0)", () -> t.save(4, 0));
        Check.outside("save(0, 3)", () -> t.save(0, 3));
        Check.outside("save(0, -1)", () -> t.save(0, -1));
        expect(t, 0, "0 1", "", "");
        for (int i = -1; i <= 1; i++) {
            Check.same("saved(0, 3, i)", t.saved(0, 3, i), PreferTable.NONE);
            Check.same("saved(0, -1, i)", t.saved(0, -1, i), PreferTable.NONE);
            Check.same("saved(4, 0, i)", t.saved(4, 0, i), PreferTable.NONE);
            Check.same("saved(-1, 0, i)", t.saved(-1, 0, i), PreferTable.NONE);
        }
        Check.no("read(-1)", t.read(-1));
        Check.no("read(4)", t.read(4));
    }
}
