import java.util.Random;
import java.util.function.Supplier;

/** All promises at once: long runs of calls, the same each time, answered as PlainModel answers. */
public final class RandomRunsTest {
    private static final int RUNS = 600;
    private static final int CALLS = 512;
    private static final int[] EXTREMES = {
        Integer.MIN_VALUE, Integer.MIN_VALUE + 1, -1, 10, Integer.MAX_VALUE - 1, Integer.MAX_VALUE,
    };

    private final Random random;
    private final PreferTable table = new PreferTable();
    private final PlainModel model = new PlainModel();
    // A run with small numbers has many values that are the same.
    private final int values;
    private final int removing;
    private int rows = 0;
    private int nodes = 0;
    private String call = "";

    private RandomRunsTest(int seed) {
        random = new Random(seed);
        values = 2 + random.nextInt(9);
        removing = 1 + random.nextInt(6);
    }

    public static void main(String[] args) {
        for (int seed = 0; seed < RUNS; seed++) {
            RandomRunsTest run = new RandomRunsTest(seed);
            for (int i = 0; i < CALLS; i++) {
                run.callOnce(seed, i);
            }
        }
        Check.end();
    }

    private void callOnce(int seed, int i) {
        int choice = random.nextInt(100);
        String[] both = chosen(choice);
        Check.same("run " + seed + ", call " + i + ": " + call, both[0], both[1]);
    }

    private String[] chosen(int choice) {
        if (choice < 45) {
            return changing(choice);
        }
        return choice < 85 ? asking(choice - 45) : saving(choice - 85);
    }

    private String[] changing(int choice) {
        if (choice < 12) {
            int a = value();
            int b = value();
            int c = value();
            int d = value();
            String[] both = pair("row " + a + " " + b + " " + c + " " + d,
                () -> table.row(a, b, c, d), () -> model.row(a, b, c, d));
            rows += both[1].matches("\\d+") ? 1 : 0;
            return both;
        }
        if (choice < 17) {
            int row = row();
            int column = within(4);
            int v = value();
            return pair("change " + row + " " + column + " " + v,
                () -> table.change(row, column, v), () -> model.change(row, column, v));
        }
        if (choice < 17 + removing) {
            int row = row();
            return pair("remove " + row, () -> table.remove(row), () -> model.remove(row));
        }
        if (choice < 29) {
            return makingNodes(choice);
        }
        if (choice < 35) {
            int node = within(nodes);
            int v = within(10);
            int layer = random.nextInt(9) - 2;
            return pair("layer " + node + " " + v + " " + layer,
                () -> table.layer(node, v, layer), () -> model.layer(node, v, layer));
        }
        if (choice < 41) {
            int node = within(nodes);
            int v = within(10);
            int w = within(10);
            return pair("edge " + node + " " + v + " " + w,
                () -> table.edge(node, v, w), () -> model.edge(node, v, w));
        }
        if (choice < 43) {
            int column = within(4);
            int operation = within(6);
            int v = value();
            return pair("condition " + column + " " + operation + " " + v,
                () -> table.condition(column, operation, v),
                () -> model.condition(column, operation, v));
        }
        return pair("free", () -> {
            table.free();
            return "done";
        }, () -> {
            model.free();
            return "done";
        });
    }

    private String[] makingNodes(int choice) {
        String[] both;
        if (choice % 2 == 0) {
            int kind = within(6);
            int column = within(4);
            int a = value();
            int b = value();
            both = pair("order " + kind + " " + column + " " + a + " " + b,
                () -> table.order(kind, column, a, b), () -> model.order(kind, column, a, b));
        } else {
            int kind = 6 + within(4);
            int p = within(nodes);
            int q = within(nodes);
            both = pair("term " + kind + " " + p + " " + q,
                () -> table.term(kind, p, q), () -> model.term(kind, p, q));
        }
        nodes += both[1].matches("\\d+") ? 1 : 0;
        return both;
    }

    private String[] asking(int choice) {
        int node = within(nodes);
        int u = row();
        int v = row();
        int small = random.nextInt(28) - 2;
        int column = within(4);
        if (choice < 6) {
            return pair("compare " + node + " " + u + " " + v,
                () -> table.compare(node, u, v), () -> model.compare(node, u, v));
        }
        if (choice < 10) {
            return pair("best " + node, () -> table.best(node), () -> model.best(node));
        }
        if (choice < 14) {
            return pair("grouped " + node + " " + column,
                () -> table.grouped(node, column), () -> model.grouped(node, column));
        }
        if (choice < 18) {
            return pair("top " + node + " " + small,
                () -> table.top(node, small), () -> model.top(node, small));
        }
        if (choice < 21) {
            return pair("level " + node + " " + u,
                () -> table.level(node, u), () -> model.level(node, u));
        }
        if (choice < 27) {
            return pair("answer " + small, () -> table.answer(small), () -> model.answer(small));
        }
        if (choice < 31) {
            int w = within(2);
            return pair("reason " + node + " " + u + " " + v + " " + w,
                () -> table.reason(node, u, v, w), () -> model.reason(node, u, v, w));
        }
        if (choice < 34) {
            return pair("reduce " + node, () -> table.reduce(node), () -> model.reduce(node));
        }
        if (choice < 38) {
            return pair("form " + small, () -> table.form(small), () -> model.form(small));
        }
        return pair("value " + u + " " + column,
            () -> table.value(u, column), () -> model.value(u, column));
    }

    private String[] saving(int choice) {
        int s = within(4);
        if (choice < 3) {
            int node = within(nodes);
            return pair("save " + s + " " + node,
                () -> table.save(s, node), () -> model.save(s, node));
        }
        if (choice < 5) {
            return pair("read " + s, () -> table.read(s), () -> model.read(s));
        }
        int w = within(3);
        int i = random.nextInt(8) - 2;
        return pair("saved " + s + " " + w + " " + i,
            () -> table.saved(s, w, i), () -> model.saved(s, w, i));
    }

    /** Mostly 0 .. limit - 1, now and then just outside. */
    private int within(int limit) {
        int chance = random.nextInt(40);
        return chance == 0 || limit == 0 ? -1 : chance == 1 ? limit : random.nextInt(limit);
    }

    /** Mostly one of the last rows, as those are more often there. */
    private int row() {
        int back = random.nextInt(30);
        return random.nextInt(20) == 0 ? within(rows) : rows - 1 - back % Math.max(1, rows);
    }

    private int value() {
        boolean isExtreme = random.nextInt(30) == 0;
        return isExtreme ? EXTREMES[random.nextInt(EXTREMES.length)] : random.nextInt(values);
    }

    private String[] pair(String text, Supplier<Object> got, Supplier<Object> due) {
        call = text;
        return new String[] {Check.outcome(got), Check.outcome(due)};
    }
}
