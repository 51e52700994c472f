/** Compares answers with those that are due, and tells at the end whether all were. */
final class Check {
    private static int made = 0;
    private static int wrong = 0;

    private Check() {
    }

    static void same(String what, long got, long due) {
        same(what, Long.toString(got), Long.toString(due));
    }

    static void yes(String what, boolean got) {
        same(what, Boolean.toString(got), "true");
    }

    static void no(String what, boolean got) {
        same(what, Boolean.toString(got), "false");
    }

    static void same(String what, String got, String due) {
        made++;
        if (!got.equals(due)) {
            wrong++;
            System.out.println(what + " answered " + got + ", due is " + due);
        }
    }

    static void outside(String what, Runnable call) {
        refuses(what, IndexOutOfBoundsException.class, call);
    }

    static void badArgument(String what, Runnable call) {
        refuses(what, IllegalArgumentException.class, call);
    }

    static void badState(String what, Runnable call) {
        refuses(what, IllegalStateException.class, call);
    }

    private static void refuses(String what, Class<? extends RuntimeException> due, Runnable call) {
        String got = "nothing thrown";
        try {
            call.run();
        } catch (RuntimeException e) {
            got = e.getClass().getName();
        }
        same(what, got, due.getName());
    }

    /** The whole ANSWER, as in "0 3 5"; past both ends of it there must be none. */
    static String answer(PreferTable t) {
        int count = t.answer(-1);
        same("answer(-2)", t.answer(-2), PreferTable.NONE);
        same("answer past the end", t.answer(count), PreferTable.NONE);
        StringBuilder all = new StringBuilder();
        for (int i = 0; i < count; i++) {
            all.append(i == 0 ? "" : " ").append(t.answer(i));
        }
        return all.toString();
    }

    /** What saved(s, w, ..) tells, whole; past both ends of it there must be none. */
    static String saved(PreferTable t, int s, int w) {
        int count = t.saved(s, w, -1);
        same("saved before the start", t.saved(s, w, -2), PreferTable.NONE);
        same("saved past the end", t.saved(s, w, count), PreferTable.NONE);
        StringBuilder all = new StringBuilder();
        for (int i = 0; i < count; i++) {
            all.append(i == 0 ? "" : " ").append(t.saved(s, w, i));
        }
        return all.toString();
    }

    /** The FORM of a node, reduced; past both ends of it there must be nothing. */
    static String form(PreferTable t, int node) {
        int count = t.reduce(node);
        outside("form(-1)", () -> t.form(-1));
        outside("form past the end", () -> t.form(count));
        StringBuilder all = new StringBuilder();
        for (int k = 0; k < count; k++) {
            all.append(k == 0 ? "" : " ").append(t.form(k));
        }
        return all.toString();
    }

    static void end() {
        if (made == 0 || wrong > 0) {
            System.out.println(wrong + " of " + made + " answers are not as due");
            System.exit(1);
        }
    }
}
