import java.util.ArrayList;
import java.util.List;
import java.util.function.Function;

/** A call that is not refused changes what its promise says, and nothing beside that. */
public final class StateChangesTest {
    private static final int[] ROWS = {1, 2, 3, 4, 5};
    private static final int NODES = 14;

    // How the lines of a Portrait begin that tell who is best, and what nodes say of rows.
    private static final List<String> BEST = List.of("level", "best", "grouped", "top");
    private static final List<String> SAID = List.of("compare", "reason");
    private static final List<String> SAVED = List.of("saved");

    private final List<String> before = Portrait.of(Tables::some, ROWS, NODES);

    public static void main(String[] args) {
        Check.sentence("Nothing is promised beyond the answers and state changes described above",
            () -> new StateChangesTest().changeEverything());
        Check.end();
    }

    private void changeEverything() {
        expect("row", "7", t -> t.row(0, 9, 9, 9), BEST, SAVED, List.of("the next row"));
        expect("change", "true", t -> t.change(3, 1, 99), BEST, SAID, SAVED, List.of("value 3 1"));
        expect("remove", "true", t -> t.remove(3), BEST, SAID, SAVED,
            List.of("value 3", "the next row"));
        expect("order", "14", t -> t.order(3, 1, 2, 3), List.of("a term of", "the next order"));
        expect("layer", "true", t -> t.layer(4, 2, 0), BEST, SAID, SAVED, List.of("LAYERS of"));
        expect("edge", "true", t -> t.edge(5, 4, 2), BEST, SAID, SAVED, List.of("edge"));
        expect("term", "14", t -> t.term(8, 0, 1), List.of("a term of", "the next order"));
        expect("condition", "2", t -> t.condition(1, 2, 4), BEST, List.of("the next condition"));
        expect("free", "null", StateChangesTest::free, BEST, List.of("the next condition"));
        expect("best", "1", t -> t.best(0), List.of("the ANSWER kept"));
        expect("grouped", "4", t -> t.grouped(0, 0), List.of("the ANSWER kept"));
        expect("top", "3", t -> t.top(5, 3), List.of("the ANSWER kept"));
        expect("reduce", "7", t -> t.reduce(9), List.of("the FORM kept"));
        expect("save", "2", t -> t.save(1, 3), List.of("saved 1"));
        expect("save in place", "1", t -> t.save(0, 1), List.of("saved 0"));
        expect("read", "true", t -> t.read(0), List.of("saved 0 1", "saved 0 2"));
    }

    private static Object free(PreferTable t) {
        t.free();
        return null;
    }

    @SafeVarargs
    private void expect(String text, String due, Function<PreferTable, Object> call,
            List<String>... changing) {
        Check.same(text, Check.outcome(() -> call.apply(Tables.some())), due);
        List<String> after = Portrait.of(() -> {
            PreferTable t = Tables.some();
            call.apply(t);
            return t;
        }, ROWS, NODES);
        Check.no(text + " changes nothing", after.equals(before));
        Check.same("what " + text + " changes beside that",
            Portrait.difference(without(after, changing), without(before, changing)), "none");
    }

    @SafeVarargs
    private static List<String> without(List<String> lines, List<String>... beginnings) {
        List<String> left = new ArrayList<>(lines);
        for (List<String> some : beginnings) {
            for (String beginning : some) {
                left.removeIf(line -> line.startsWith(beginning));
            }
        }
        return left;
    }
}
