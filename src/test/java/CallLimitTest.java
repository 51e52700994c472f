import java.util.List;
import java.util.function.Consumer;
import java.util.function.Function;
import java.util.function.ObjIntConsumer;

/** 'What it is': the last call that is promised is answered like the first ones. */
public final class CallLimitTest {
    private static final int CALLS = 512;

    /** Nodes 0 LOW, 1 LAYERS, 2 GRAPH, 3 PARETO of 0 and 1, 4 DUAL of 3; row 0 is BEST in 3. */
    private static final List<Consumer<PreferTable>> START = List.of(
        t -> t.order(0, 0, 0, 0), t -> t.order(4, 1, 0, 0), t -> t.order(5, 1, 0, 0),
        t -> t.term(6, 0, 1), t -> t.term(9, 3, 0), t -> t.layer(1, 2, 0), t -> t.edge(2, 2, 5),
        t -> t.row(1, 2, 0, 0), t -> t.row(2, 2, 0, 0), t -> t.row(2, 5, 0, 0),
        t -> t.condition(0, 3, 3), t -> t.save(0, 3), t -> t.best(3), t -> t.reduce(4));

    /** Calls that leave the answers of LAST_CALLS as they are, however often they are made. */
    private static final List<ObjIntConsumer<PreferTable>> FILLERS = List.of(
        (t, left) -> t.change(2, 3, left), (t, left) -> t.layer(1, 9, left % 6),
        (t, left) -> t.edge(2, 2, 5), (t, left) -> t.remove(left + 3),
        (t, left) -> t.value(2, left % 4), (t, left) -> t.compare(3, 0, left % 3),
        (t, left) -> t.best(3), (t, left) -> t.grouped(3, 3), (t, left) -> t.top(3, 1),
        (t, left) -> t.level(3, left % 3), (t, left) -> t.answer(left - 9),
        (t, left) -> t.reason(4, 1, 0, left % 3), (t, left) -> t.save(left % 4, 3),
        (t, left) -> t.saved(0, left % 3, -1), (t, left) -> t.read(0),
        (t, left) -> t.reduce(4), (t, left) -> t.form(left % 6),
        (t, left) -> Check.outcome(() -> t.term(7, 0, 99)),
        (t, left) -> Check.outcome(() -> t.order(6, 0, 0, 0)),
        (t, left) -> Check.outcome(() -> t.edge(2, 5, 2)), CallLimitTest::freeAndCondition);

    private record LastCall(String text, String due, Function<PreferTable, Object> made) {
    }

    private static final List<LastCall> LAST_CALLS = List.of(
        new LastCall("row", "3", t -> t.row(0, 0, 0, 0)),
        new LastCall("change", "true", t -> t.change(0, 0, 9)),
        new LastCall("remove", "true", t -> t.remove(2)),
        new LastCall("value", "5", t -> t.value(2, 1)),
        new LastCall("order", "5", t -> t.order(3, 3, 0, 0)),
        new LastCall("layer", "true", t -> t.layer(1, 0, 5)),
        new LastCall("edge", "true", t -> t.edge(2, 5, 0)),
        new LastCall("term", "5", t -> t.term(8, 4, 3)),
        new LastCall("condition", "2", t -> t.condition(0, 0, 0)),
        new LastCall("compare", "1", t -> t.compare(3, 0, 2)),
        new LastCall("best", "2", t -> t.best(1)),
        new LastCall("grouped", "2", t -> t.grouped(3, 0)),
        new LastCall("top", "3", t -> t.top(3, 4)),
        new LastCall("level", "3", t -> t.level(3, 2)),
        new LastCall("answer", "0", t -> t.answer(0)),
        new LastCall("answer(-1)", "1", t -> t.answer(-1)),
        new LastCall("reason", "3", t -> t.reason(4, 1, 0, 1)),
        new LastCall("save", "1", t -> t.save(3, 4)),
        new LastCall("saved", "0", t -> t.saved(0, 0, 0)),
        new LastCall("read", "true", t -> t.read(0)),
        new LastCall("reduce", "7", t -> t.reduce(4)),
        new LastCall("form", "6", t -> t.form(1)),
        new LastCall("refused", "IndexOutOfBoundsException", t -> t.best(5)));

    public static void main(String[] args) {
        Check.sentence("An object is used for at most 512 calls after it has been made",
            CallLimitTest::lastCallIsAnswered);
        Check.sentence("An object is used for at most 512 calls (rows come and go)",
            CallLimitTest::rowsComeAndGo);
        Check.sentence("An object is used for at most 512 calls (a value changes)",
            CallLimitTest::valueChanges);
        Check.end();
    }

    private static void freeAndCondition(PreferTable t, int left) {
        if (left % 2 == 0) {
            t.free();
        } else {
            t.condition(0, 3, 3);
        }
    }

    private static void lastCallIsAnswered() {
        for (int filler = 0; filler < FILLERS.size(); filler++) {
            for (LastCall last : LAST_CALLS) {
                PreferTable t = new PreferTable();
                START.forEach(call -> call.accept(t));
                for (int left = CALLS - 1 - START.size(); left > 0; left--) {
                    FILLERS.get(filler).accept(t, left);
                }
                String got = Check.outcome(() -> last.made().apply(t));
                Check.same(last.text() + " behind filler " + filler, got, last.due());
            }
        }
    }

    /** 2 calls, 4 for each of 120 rows, and then 30 more. */
    private static void rowsComeAndGo() {
        PreferTable t = new PreferTable();
        t.order(1, 0, 0, 0);
        t.save(0, 0);
        for (int i = 0; i < 120; i++) {
            Check.same("row", t.row(i, 0, 0, 0), i);
            Check.same("the newest is BEST", t.saved(0, 0, 0), i);
            t.remove(i - 20);
            Check.yes("read", t.read(0));
        }
        for (int i = 482; i < CALLS - 1; i++) {
            Check.badState("row 121", () -> t.row(0, 0, 0, 0));
        }
        Check.same("call 512", t.saved(0, 0, 0), 119);
    }

    /** However many changes lie between two looks: 6 calls, the changes, and two looks. */
    private static void valueChanges() {
        for (int changes = 1; changes <= CALLS - 8; changes++) {
            PreferTable t = Bounds.tableOf(0, 0, 0);
            t.order(1, 0, 0, 0);
            Check.same("both are BEST", t.save(0, 0), 2);
            for (int i = 1; i <= changes; i++) {
                t.change(i % 2, 0, i);
            }
            Check.same("one is BEST after " + changes, t.saved(0, 0, -1), 1);
            Check.same("the one that changed last", t.saved(0, 0, 0), changes % 2);
        }
    }
}
