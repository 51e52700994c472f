/** Promises 10 and 11: condition, free. */
public final class ConditionsTest {
    public static void main(String[] args) {
        operations();
        extremes();
        allMustHold();
        wrongConditionsAreRefused();
        freeTakesAllAway();
        Check.end();
    }

    /** A table with a row for each value in column 0, and GRAPH, in which no row beats another. */
    private static PreferTable tableOf(int... values) {
        PreferTable t = new PreferTable();
        t.order(5, 3, 0, 0);
        for (int i = 0; i < values.length; i++) {
            t.row(values[i], -values[i], 0, i);
        }
        return t;
    }

    private static String passing(PreferTable t) {
        t.best(0);
        return Check.answer(t);
    }

    private static void operations() {
        String[] due = {"2", "0 1 3 4", "0 1", "0 1 2", "3 4", "2 3 4"};
        for (int operation = 0; operation < due.length; operation++) {
            PreferTable t = tableOf(1, 2, 3, 4, 5);
            Check.same("condition", t.condition(0, operation, 3), 1);
            Check.same("operation " + operation, passing(t), due[operation]);
        }
    }

    private static void extremes() {
        PreferTable t = tableOf(Integer.MIN_VALUE, 0, Integer.MAX_VALUE);
        t.condition(0, 2, Integer.MAX_VALUE);
        Check.same("below the greatest", passing(t), "0 1");
        t.condition(0, 4, Integer.MIN_VALUE);
        Check.same("and above the least", passing(t), "1");
    }

    private static void allMustHold() {
        PreferTable t = tableOf(1, 2, 3, 4, 5);
        Check.same("condition 1", t.condition(0, 5, 2), 1);
        Check.same("condition 2", t.condition(1, 4, -5), 2);
        Check.same("both", passing(t), "1 2 3");
        Check.same("condition 3", t.condition(0, 1, 3), 3);
        Check.same("three", passing(t), "1 3");
        Check.same("condition 4, one there already", t.condition(0, 1, 3), 4);
        Check.same("four", passing(t), "1 3");
    }

    private static void wrongConditionsAreRefused() {
        PreferTable t = tableOf(1, 2, 3);
        Check.badArgument("condition(-1, ..)", () -> t.condition(-1, 0, 0));
        Check.badArgument("condition(4, ..)", () -> t.condition(4, 0, 0));
        Check.badArgument("condition(0, -1, ..)", () -> t.condition(0, -1, 0));
        Check.badArgument("condition(0, 6, ..)", () -> t.condition(0, 6, 0));
        Check.same("none has come", passing(t), "0 1 2");
        for (int i = 1; i <= 4; i++) {
            Check.same("condition", t.condition(0, 3, 2), i);
        }
        Check.badState("condition 5", () -> t.condition(0, 0, 77));
        Check.badArgument("a wrong column comes first", () -> t.condition(4, 0, 0));
        Check.badArgument("a wrong operation comes first", () -> t.condition(0, 6, 0));
        Check.same("the four count still", passing(t), "0 1");
    }

    private static void freeTakesAllAway() {
        PreferTable t = tableOf(1, 2, 3);
        t.free();
        Check.same("free with none", passing(t), "0 1 2");
        t.condition(0, 0, 1);
        t.condition(0, 0, 2);
        Check.same("nothing passes", passing(t), "");
        t.free();
        Check.same("the ANSWER stays", Check.answer(t), "");
        Check.same("all pass again", passing(t), "0 1 2");
        Check.same("counted from 1 again", t.condition(0, 0, 3), 1);
        Check.same("only the new one counts", passing(t), "2");
    }
}
