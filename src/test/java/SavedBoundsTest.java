import java.util.List;
import java.util.function.Consumer;

/** SAVED questions, and promises 19 to 21, at their bounds: a test for each sentence. */
public final class SavedBoundsTest {
    private static final int LEAST = Bounds.LEAST;
    private static final int GREATEST = Bounds.GREATEST;
    private static final int LOW = 0;
    private static final int HIGH = 1;
    private static final int LAYERS = 2;
    private static final int GRAPH = 3;

    public static void main(String[] args) {
        Check.sentence("SAVED questions 0 .. 3 have a node", SavedBoundsTest::fourQuestions);
        Check.sentence("and the conditions as they were then", SavedBoundsTest::conditionsOfThen);
        upToDate();
        Check.sentence("and the BEST when it was READ last", SavedBoundsTest::readLast);
        save();
        saved();
        Check.sentence("21: Question s is READ: true", SavedBoundsTest::readFirstAndLast);
        Check.sentence("21: false if it is not SAVED", SavedBoundsTest::readNotSaved);
        Check.sentence("21: false if .. there is none such", SavedBoundsTest::readNoneSuch);
        Check.end();
    }

    private static void upToDate() {
        String words = "each has its BEST (by these) always up to date ";
        Check.sentence(words + "(a row comes)", SavedBoundsTest::rowComes);
        Check.sentence(words + "(a row changes)", SavedBoundsTest::rowChanges);
        Check.sentence(words + "(a row goes)", SavedBoundsTest::rowGoes);
        Check.sentence(words + "(a layer)", SavedBoundsTest::layerComesAndGoes);
        Check.sentence(words + "(an edge)", SavedBoundsTest::edgeComes);
        Check.sentence(words + "(all rows come and go)", SavedBoundsTest::allRowsComeAndGo);
        Check.sentence(words + "(two alterations at once)", SavedBoundsTest::twoAtOnce);
    }

    private static void save() {
        Check.sentence("19: Question s is SAVED .. how many are BEST",
            SavedBoundsTest::saveNoneOneAndAll);
        Check.sentence("19: with .. the present conditions", SavedBoundsTest::presentConditions);
        Check.sentence("19: in place of another one", SavedBoundsTest::inPlaceOfAnother);
        Check.sentence("19: and READ at once", SavedBoundsTest::readAtOnce);
        Check.sentence("19: IndexOutOfBoundsException if there is no such question",
            SavedBoundsTest::saveNoSuchQuestion);
        Check.sentence("19: IndexOutOfBoundsException if there is no such .. node",
            SavedBoundsTest::saveNoSuchNode);
    }

    private static void saved() {
        Check.sentence("20: w = 0: the BEST", SavedBoundsTest::bestNow);
        Check.sentence("20: 1: those of the BEST that were not when it was READ last",
            SavedBoundsTest::comeSince);
        Check.sentence("20: 2: those that were and are not", SavedBoundsTest::goneSince);
        Check.sentence("20: Row i of them by rising numbers", SavedBoundsTest::byRisingNumbers);
        Check.sentence("20: how many, if i is -1", SavedBoundsTest::howMany);
        Check.sentence("20: NONE if there is none such", SavedBoundsTest::noneSuch);
        Check.sentence("20: NONE if .. no such w", SavedBoundsTest::noSuchW);
        Check.sentence("20: NONE if .. it is not SAVED", SavedBoundsTest::notSaved);
    }

    /** Nodes 0 LOW, 1 HIGH, 2 LAYERS, 3 GRAPH, all of column 0; row i has i everywhere. */
    private static PreferTable table(int rows) {
        PreferTable t = Bounds.withRows(rows);
        t.order(0, 0, 0, 0);
        t.order(1, 0, 0, 0);
        t.order(4, 0, 0, 0);
        t.order(5, 0, 0, 0);
        return t;
    }

    private static void expect(PreferTable t, int s, String best, String come, String gone) {
        Check.same("BEST of " + s, Check.saved(t, s, 0), best);
        Check.same("come in " + s, Check.saved(t, s, 1), come);
        Check.same("gone in " + s, Check.saved(t, s, 2), gone);
    }

    private static void fourQuestions() {
        PreferTable t = table(3);
        Check.same("save(0, LOW)", t.save(0, LOW), 1);
        Check.same("save(1, HIGH)", t.save(1, HIGH), 1);
        Check.same("save(2, LAYERS)", t.save(2, LAYERS), 3);
        Check.same("save(3, GRAPH)", t.save(3, GRAPH), 3);
        t.layer(LAYERS, 1, 5);
        t.edge(GRAPH, 0, 1);
        expect(t, 0, "0", "", "");
        expect(t, 1, "2", "", "");
        expect(t, 2, "1", "", "0 2");
        expect(t, 3, "0 2", "", "1");
    }

    private static void conditionsOfThen() {
        PreferTable t = table(6);
        for (int i = 0; i < 4; i++) {
            Check.same("save", t.save(i, LOW), 1);
            t.condition(i, 1, i);
        }
        for (int i = 0; i < 4; i++) {
            expect(t, i, Integer.toString(i), "", "");
        }
        Check.same("save with all four", t.save(0, LOW), 1);
        t.free();
        t.condition(0, 0, 77);
        expect(t, 0, "4", "", "");
        t.change(4, 3, 3);
        expect(t, 0, "5", "5", "4");
        t.free();
        t.change(4, 3, 4);
        expect(t, 0, "4", "", "");
        expect(t, 3, "3", "", "");
    }

    private static void rowComes() {
        PreferTable t = table(0);
        t.save(0, LOW);
        expect(t, 0, "", "", "");
        t.row(5, 0, 0, 0);
        expect(t, 0, "0", "0", "");
        t.row(6, 0, 0, 0);
        expect(t, 0, "0", "0", "");
        t.row(5, 1, 1, 1);
        expect(t, 0, "0 2", "0 2", "");
        t.row(LEAST, 0, 0, 0);
        expect(t, 0, "3", "3", "");
        t.condition(0, 4, LEAST);
        t.save(1, LOW);
        t.row(LEAST, 0, 0, 0);
        expect(t, 0, "3 4", "3 4", "");
        expect(t, 1, "0 2", "", "");
    }

    private static void rowChanges() {
        PreferTable t = table(3);
        t.condition(1, 1, 7);
        t.save(0, LOW);
        t.change(0, 0, GREATEST);
        expect(t, 0, "1", "1", "0");
        t.change(0, 0, 1);
        expect(t, 0, "0 1", "1", "");
        t.change(0, 1, 7);
        expect(t, 0, "1", "1", "0");
        t.change(1, 1, 7);
        t.change(2, 1, 7);
        expect(t, 0, "", "", "0");
        t.change(2, 1, 8);
        expect(t, 0, "2", "2", "0");
        Check.no("a change that is refused", t.change(2, 4, 7));
        expect(t, 0, "2", "2", "0");
    }

    private static void rowGoes() {
        PreferTable t = table(3);
        t.save(0, LOW);
        t.remove(2);
        expect(t, 0, "0", "", "");
        t.remove(0);
        expect(t, 0, "1", "1", "0");
        t.remove(1);
        expect(t, 0, "", "", "0");
        Check.no("once more", t.remove(1));
        expect(t, 0, "", "", "0");
    }

    private static void layerComesAndGoes() {
        PreferTable t = table(3);
        t.term(9, LAYERS, 0);
        t.save(0, LAYERS);
        t.save(3, 4);
        t.layer(LAYERS, 1, 5);
        expect(t, 0, "1", "", "0 2");
        expect(t, 3, "0 2", "", "1");
        t.layer(LAYERS, 2, 0);
        expect(t, 0, "2", "", "0 1");
        expect(t, 3, "0", "", "1 2");
        Check.no("a layer that is refused", t.layer(LAYERS, 2, 6));
        expect(t, 0, "2", "", "0 1");
        t.layer(LAYERS, 2, -1);
        expect(t, 0, "1", "", "0 2");
        t.layer(LAYERS, 1, -1);
        expect(t, 0, "0 1 2", "", "");
        expect(t, 3, "0 1 2", "", "");
    }

    private static void edgeComes() {
        PreferTable t = table(3);
        t.term(9, GRAPH, 0);
        t.save(0, GRAPH);
        t.save(3, 4);
        t.edge(GRAPH, 2, 9);
        expect(t, 0, "0 1 2", "", "");
        t.edge(GRAPH, 9, 0);
        expect(t, 0, "1 2", "", "0");
        expect(t, 3, "0 1", "", "2");
        Check.badState("an edge that is refused", () -> t.edge(GRAPH, 0, 2));
        expect(t, 0, "1 2", "", "0");
        t.edge(GRAPH, 2, 1);
        expect(t, 0, "2", "", "0 1");
    }

    private static void allRowsComeAndGo() {
        PreferTable t = table(24);
        Check.same("save", t.save(0, GRAPH), 24);
        for (int i = 0; i < 24; i++) {
            t.remove(i);
        }
        Check.same("none is BEST", t.saved(0, 0, -1), 0);
        Check.same("none has come", t.saved(0, 1, -1), 0);
        Check.same("24 are gone", t.saved(0, 2, -1), 24);
        for (int i = 24; i < 48; i++) {
            t.row(i, i, i, i);
        }
        Check.same("24 are BEST", t.saved(0, 0, -1), 24);
        Check.same("24 have come", t.saved(0, 1, -1), 24);
        for (int i = 0; i < 24; i++) {
            Check.same("BEST", t.saved(0, 0, i), 24 + i);
            Check.same("come", t.saved(0, 1, i), 24 + i);
            Check.same("gone", t.saved(0, 2, i), i);
        }
        t.read(0);
        Check.same("none is gone since then", t.saved(0, 2, -1), 0);
    }

    // Each of them alters the BEST of the rows 0, 1, 2 in one of the nodes 0 to 3.
    private static final List<Consumer<PreferTable>> ALTERATIONS = List.of(
        t -> t.row(-5, 0, 0, 0), t -> t.change(1, 0, 6), t -> t.remove(2),
        t -> t.layer(LAYERS, 0, 1), t -> t.edge(GRAPH, 0, 2));

    private static void twoAtOnce() {
        for (Consumer<PreferTable> one : ALTERATIONS) {
            Check.yes("one alteration alters something", countAltered(savedTable(one)) > 0);
            for (Consumer<PreferTable> other : ALTERATIONS) {
                PreferTable t = savedTable(one);
                other.accept(t);
                for (int node = LOW; node <= GRAPH; node++) {
                    String told = Check.saved(t, node, 0);
                    t.best(node);
                    Check.same("BEST of node " + node, told, Check.answer(t));
                }
            }
        }
    }

    /** Rows 0, 1, 2, each node saved as the question of its number, and then an alteration. */
    private static PreferTable savedTable(Consumer<PreferTable> alteration) {
        PreferTable t = table(3);
        for (int node = LOW; node <= GRAPH; node++) {
            t.save(node, node);
        }
        alteration.accept(t);
        return t;
    }

    private static int countAltered(PreferTable t) {
        int altered = 0;
        for (int s = 0; s < 4; s++) {
            altered += t.saved(s, 1, -1) + t.saved(s, 2, -1);
        }
        return altered;
    }

    private static void readLast() {
        PreferTable t = table(3);
        t.save(0, LOW);
        t.remove(0);
        t.row(-1, 0, 0, 0);
        expect(t, 0, "3", "3", "0");
        expect(t, 0, "3", "3", "0");
        t.read(0);
        expect(t, 0, "3", "", "");
        t.remove(3);
        t.read(0);
        t.row(-1, 0, 0, 0);
        expect(t, 0, "4", "4", "1");
        t.change(4, 0, 99);
        expect(t, 0, "1", "", "");
    }

    private static void saveNoneOneAndAll() {
        PreferTable none = table(0);
        Check.same("of no rows", none.save(0, LOW), 0);
        Check.yes("it is SAVED all the same", none.read(0));
        expect(none, 0, "", "", "");
        PreferTable t = table(24);
        Check.same("one of 24", t.save(3, HIGH), 1);
        Check.same("the last", t.saved(3, 0, 0), 23);
        Check.same("all of 24", t.save(3, GRAPH), 24);
        Check.same("the last", t.saved(3, 0, 23), 23);
        t.condition(0, 2, LEAST);
        Check.same("none passes", t.save(3, GRAPH), 0);
        expect(t, 3, "", "", "");
    }

    private static void presentConditions() {
        PreferTable t = table(3);
        Check.same("none", t.save(0, GRAPH), 3);
        t.condition(0, 1, 0);
        Check.same("one", t.save(1, GRAPH), 2);
        t.condition(0, 1, 1);
        t.condition(0, 1, 7);
        t.condition(0, 1, 8);
        Check.same("four", t.save(2, GRAPH), 1);
        t.free();
        Check.same("freed", t.save(3, GRAPH), 3);
        expect(t, 0, "0 1 2", "", "");
        expect(t, 1, "1 2", "", "");
        expect(t, 2, "2", "", "");
        expect(t, 3, "0 1 2", "", "");
    }

    private static void inPlaceOfAnother() {
        PreferTable t = table(4);
        t.condition(0, 4, 0);
        t.condition(0, 4, 1);
        t.save(0, LOW);
        t.save(1, LOW);
        expect(t, 0, "2", "", "");
        t.free();
        Check.same("another node, no conditions", t.save(0, HIGH), 1);
        expect(t, 0, "3", "", "");
        t.condition(0, 3, 1);
        Check.same("the same node, a condition", t.save(0, HIGH), 1);
        expect(t, 0, "1", "", "");
        t.change(1, 0, 50);
        expect(t, 0, "0", "0", "1");
        expect(t, 1, "2", "", "");
        t.free();
        Check.same("all once more", t.save(0, GRAPH), 4);
        expect(t, 0, "0 1 2 3", "", "");
    }

    private static void readAtOnce() {
        PreferTable t = table(3);
        t.save(2, LOW);
        t.remove(0);
        expect(t, 2, "1", "1", "0");
        Check.same("the same once more", t.save(2, LOW), 1);
        expect(t, 2, "1", "", "");
        t.save(2, HIGH);
        expect(t, 2, "2", "", "");
    }

    private static void saveNoSuchQuestion() {
        PreferTable t = table(3);
        for (int s : Bounds.outside(3)) {
            Check.outside("save(" + s + ", 0)", () -> t.save(s, LOW));
            Check.none("saved(" + s + ", 0, -1)", t.saved(s, 0, -1));
        }
        for (int s = 0; s < 4; s++) {
            Check.none("none is SAVED", t.saved(s, 0, -1));
        }
        Check.same("the first", t.save(0, LOW), 1);
        Check.same("the last", t.save(3, LOW), 1);
        Check.none("not those between", t.saved(1, 0, -1));
        Check.none("not those between", t.saved(2, 0, -1));
    }

    private static void saveNoSuchNode() {
        PreferTable t = table(3);
        t.save(0, LOW);
        t.remove(0);
        for (int node : Bounds.outside(3)) {
            Check.outside("save(0, " + node + ")", () -> t.save(0, node));
            Check.outside("save(1, " + node + ")", () -> t.save(1, node));
        }
        Check.outside("no such question, no such node", () -> t.save(4, 4));
        expect(t, 0, "1", "1", "0");
        Check.none("question 1 is not SAVED", t.saved(1, 0, -1));
        Check.same("the last node", t.save(1, GRAPH), 2);
    }

    private static void bestNow() {
        PreferTable t = table(24);
        t.save(0, GRAPH);
        for (int i = 0; i < 24; i++) {
            Check.same("saved(0, 0, " + i + ")", t.saved(0, 0, i), i);
        }
        t.edge(GRAPH, 0, 1);
        Check.same("1 is no more", t.saved(0, 0, 1), 2);
        Check.same("the last", t.saved(0, 0, 22), 23);
        Check.none("past the last", t.saved(0, 0, 23));
    }

    /** Rows 1 and 2 have been BEST, then 2 and 3 are. */
    private static PreferTable moved() {
        PreferTable t = table(4);
        t.change(0, 0, 9);
        t.change(1, 0, 2);
        t.save(1, LOW);
        t.change(1, 0, 3);
        t.change(3, 0, 2);
        return t;
    }

    private static void comeSince() {
        PreferTable t = moved();
        Check.same("those that have come", Check.saved(t, 1, 1), "3");
        t.change(0, 0, 2);
        Check.same("one more", Check.saved(t, 1, 1), "0 3");
        t.change(1, 0, 2);
        Check.same("one that was there is none", Check.saved(t, 1, 1), "0 3");
        t.read(1);
        Check.same("none since", Check.saved(t, 1, 1), "");
    }

    private static void goneSince() {
        PreferTable t = moved();
        Check.same("those that are gone", Check.saved(t, 1, 2), "1");
        t.change(0, 0, 1);
        Check.same("one more", Check.saved(t, 1, 2), "1 2");
        t.remove(2);
        t.remove(1);
        Check.same("also if the rows are gone", Check.saved(t, 1, 2), "1 2");
        t.read(1);
        Check.same("none since", Check.saved(t, 1, 2), "");
    }

    private static void byRisingNumbers() {
        PreferTable t = Bounds.afterRows(120, 24);
        t.order(5, 0, 0, 0);
        t.save(0, 0);
        Check.same("the first", t.saved(0, 0, 0), 96);
        Check.same("the last", t.saved(0, 0, 23), 119);
        t.remove(119);
        t.remove(96);
        t.remove(110);
        Check.same("those that are gone", Check.saved(t, 0, 2), "96 110 119");
        Check.same("the first still there", t.saved(0, 0, 0), 97);
        Check.same("the last still there", t.saved(0, 0, 20), 118);
    }

    private static void howMany() {
        PreferTable t = moved();
        Check.same("BEST", t.saved(1, 0, -1), 2);
        Check.same("come", t.saved(1, 1, -1), 1);
        Check.same("gone", t.saved(1, 2, -1), 1);
        t.read(1);
        Check.same("come since", t.saved(1, 1, -1), 0);
        Check.same("gone since", t.saved(1, 2, -1), 0);
        for (int i = 0; i < 4; i++) {
            t.remove(i);
        }
        Check.same("no BEST", t.saved(1, 0, -1), 0);
        Check.same("two are gone", t.saved(1, 2, -1), 2);
    }

    private static void noneSuch() {
        PreferTable t = moved();
        int[] counts = {2, 1, 1};
        for (int w = 0; w < 3; w++) {
            for (int i : new int[] {LEAST, -3, -2, counts[w], counts[w] + 1, 24, 32, GREATEST}) {
                Check.none("saved(1, " + w + ", " + i + ")", t.saved(1, w, i));
            }
        }
        Check.same("the last of the BEST", t.saved(1, 0, 1), 3);
        Check.same("the last that has come", t.saved(1, 1, 0), 3);
        Check.same("the last that is gone", t.saved(1, 2, 0), 1);
        PreferTable none = table(0);
        none.save(0, LOW);
        for (int w = 0; w < 3; w++) {
            Check.none("of no rows", none.saved(0, w, 0));
        }
    }

    private static void noSuchW() {
        PreferTable t = moved();
        for (int w : Bounds.outside(2)) {
            for (int i : new int[] {LEAST, -2, -1, 0, 1, GREATEST}) {
                Check.none("saved(1, " + w + ", " + i + ")", t.saved(1, w, i));
            }
        }
    }

    private static void notSaved() {
        PreferTable t = moved();
        for (int s : new int[] {LEAST, -1, 0, 2, 3, 4, 5, 32, 33, GREATEST}) {
            for (int w = -1; w <= 3; w++) {
                Check.none("saved(" + s + ", " + w + ", -1)", t.saved(s, w, -1));
                Check.none("saved(" + s + ", " + w + ", 0)", t.saved(s, w, 0));
            }
        }
    }

    private static void readFirstAndLast() {
        for (int s = 0; s < 4; s++) {
            PreferTable t = table(3);
            t.save(s, LOW);
            t.remove(0);
            expect(t, s, "1", "1", "0");
            Check.yes("read(" + s + ")", t.read(s));
            expect(t, s, "1", "", "");
            Check.yes("read(" + s + ") with nothing new", t.read(s));
            expect(t, s, "1", "", "");
            t.remove(1);
            Check.yes("read(" + s + ") without a look before", t.read(s));
            expect(t, s, "2", "", "");
        }
    }

    private static void readNotSaved() {
        PreferTable t = table(3);
        for (int s = 0; s < 4; s++) {
            Check.no("read(" + s + ")", t.read(s));
        }
        t.save(1, LOW);
        for (int s = 0; s < 4; s++) {
            Check.same("read(" + s + ")", Boolean.toString(t.read(s)), Boolean.toString(s == 1));
        }
        Check.none("question 0 is not SAVED still", t.saved(0, 0, -1));
    }

    private static void readNoneSuch() {
        PreferTable t = table(3);
        for (int s = 0; s < 4; s++) {
            t.save(s, LOW);
        }
        t.remove(0);
        for (int s : Bounds.outside(3)) {
            Check.no("read(" + s + ")", t.read(s));
        }
        for (int s = 0; s < 4; s++) {
            expect(t, s, "1", "1", "0");
        }
    }
}
