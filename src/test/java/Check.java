import java.util.function.Supplier;

/** Compares answers with those that are due, and tells at the end whether all were. */
final class Check {
    private static int made = 0;
    private static int wrong = 0;
    private static String sentence = "";

    private Check() {
    }

    /** Runs the test of a sentence of the document; what is wrong in it is told with its words. */
    static void sentence(String words, Runnable test) {
        sentence = "'" + words + "': ";
        int before = made;
        try {
            test.run();
        } catch (RuntimeException e) {
            same("the test", e.toString(), "nothing thrown");
        }
        yes("the test looks at something", made > before);
        sentence = "";
    }

    static void same(String what, long got, long due) {
        same(what, Long.toString(got), Long.toString(due));
    }

    static void yes(String what, boolean got) {
        same(what, Boolean.toString(got), "true");
    }

    static void no(String what, boolean got) {
        same(what, Boolean.toString(got), "false");
    }

    static void none(String what, int got) {
        same(what, got, PreferTable.NONE);
    }

    static void same(String what, String got, String due) {
        made++;
        if (!got.equals(due)) {
            wrong++;
            System.out.println(sentence + what + " answered " + got + ", due is " + due);
        }
    }

    static void outside(String what, Runnable call) {
        refuses(what, IndexOutOfBoundsException.class, call);
    }

    static void badArgument(String what, Runnable call) {
        refuses(what, IllegalArgumentException.class, call);
    }

    static void badState(String what, Runnable call) {
        refuses(what, IllegalStateException.class, call);
    }

    private static void refuses(String what, Class<? extends RuntimeException> due, Runnable call) {
        String got = outcome(() -> {
            call.run();
            return "nothing thrown";
        });
        same(what, got, due.getSimpleName());
    }

    /** What a call answers, or the name of what it throws. */
    static String outcome(Supplier<Object> call) {
        try {
            return String.valueOf(call.get());
        } catch (RuntimeException e) {
            return e.getClass().getSimpleName();
        }
    }

    /** The whole ANSWER, as in "0 3 5"; past both ends of it there must be none. */
    static String answer(PreferTable t) {
        int count = t.answer(-1);
        none("answer(-2)", t.answer(-2));
        none("answer past the end", t.answer(count));
        StringBuilder all = new StringBuilder();
        for (int i = 0; i < count; i++) {
            all.append(i == 0 ? "" : " ").append(t.answer(i));
        }
        return all.toString();
    }

    /** What saved(s, w, ..) tells, whole; past both ends of it there must be none. */
    static String saved(PreferTable t, int s, int w) {
        int count = t.saved(s, w, -1);
        none("saved before the start", t.saved(s, w, -2));
        none("saved past the end", t.saved(s, w, count));
        StringBuilder all = new StringBuilder();
        for (int i = 0; i < count; i++) {
            all.append(i == 0 ? "" : " ").append(t.saved(s, w, i));
        }
        return all.toString();
    }

    /** The FORM of a node, reduced; past both ends of it there must be nothing. */
    static String form(PreferTable t, int node) {
        int count = t.reduce(node);
        outside("form(-1)", () -> t.form(-1));
        outside("form past the end", () -> t.form(count));
        StringBuilder all = new StringBuilder();
        for (int k = 0; k < count; k++) {
            all.append(k == 0 ? "" : " ").append(t.form(k));
        }
        return all.toString();
    }

    static void end() {
        if (made == 0 || wrong > 0) {
            System.out.println(wrong + " of " + made + " answers are not as due");
            System.exit(1);
        }
    }
}
