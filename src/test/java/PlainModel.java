import java.util.ArrayList;
import java.util.List;
import java.util.TreeMap;
import java.util.TreeSet;

/**
 * The document's words once more, with the Java library and without any thought of speed, so that
 * RandomRunsTest has something to hold PreferTable against. It is written from the document alone
 * and shares no code or way of thinking with PreferTable.
 */
final class PlainModel {
    private record Tree(int kind, int column, int a, int b, int node, Tree p, Tree q) {
        boolean isTerm() {
            return kind >= 6;
        }

        TreeSet<Integer> columns() {
            TreeSet<Integer> all = new TreeSet<>();
            if (!isTerm()) {
                all.add(column);
                return all;
            }
            all.addAll(p.columns());
            if (q != null) {
                all.addAll(q.columns());
            }
            return all;
        }

        int size() {
            return isTerm() ? 1 + p.size() + (q == null ? 0 : q.size()) : 1;
        }
    }

    private record Condition(int column, int operation, int number) {
    }

    private record Edge(int better, int worse) {
    }

    private static final class Question {
        int node;
        List<Condition> conditions;
        List<Integer> whenRead;
    }

    private final TreeMap<Integer, int[]> rows = new TreeMap<>();
    private int made = 0;
    private final List<Tree> nodes = new ArrayList<>();
    private final List<int[]> parts = new ArrayList<>();
    private final TreeMap<Integer, TreeMap<Integer, Integer>> layers = new TreeMap<>();
    private final TreeMap<Integer, List<Edge>> edges = new TreeMap<>();
    private List<Condition> conditions = new ArrayList<>();
    private List<Integer> answer = List.of();
    private final Question[] questions = new Question[4];
    private List<Integer> form = List.of();

    int row(int a, int b, int c, int d) {
        if (made >= 120 || rows.size() >= 24) {
            throw new IllegalStateException();
        }
        rows.put(made, new int[] {a, b, c, d});
        return made++;
    }

    boolean change(int row, int column, int v) {
        if (!rows.containsKey(row) || column < 0 || column > 3) {
            return false;
        }
        rows.get(row)[column] = v;
        return true;
    }

    boolean remove(int row) {
        return rows.remove(row) != null;
    }

    int value(int row, int column) {
        need(rows.containsKey(row) && column >= 0 && column <= 3);
        return rows.get(row)[column];
    }

    int order(int kind, int column, int a, int b) {
        if (kind < 0 || kind > 5 || column < 0 || column > 3 || kind == 3 && a > b) {
            throw new IllegalArgumentException();
        }
        if (nodes.size() >= 24) {
            throw new IllegalStateException();
        }
        int number = nodes.size();
        nodes.add(new Tree(kind, column, kind == 2 || kind == 3 ? a : 0, kind == 3 ? b : 0,
            kind == 4 || kind == 5 ? number : -1, null, null));
        parts.add(new int[0]);
        layers.put(number, new TreeMap<>());
        edges.put(number, new ArrayList<>());
        return number;
    }

    boolean layer(int node, int v, int layer) {
        if (!isNode(node) || nodes.get(node).kind() != 4 || v < 0 || v > 9 || layer < -1
            || layer > 5) {
            return false;
        }
        layers.get(node).remove(v);
        if (layer >= 0) {
            layers.get(node).put(v, layer);
        }
        return true;
    }

    boolean edge(int node, int better, int worse) {
        if (!isNode(node) || nodes.get(node).kind() != 5 || better < 0 || better > 9 || worse < 0
            || worse > 9) {
            throw new IllegalArgumentException();
        }
        Edge edge = new Edge(better, worse);
        if (edges.get(node).contains(edge)) {
            return false;
        }
        if (better == worse || comesFrom(node, worse, better)) {
            throw new IllegalStateException();
        }
        edges.get(node).add(edge);
        return true;
    }

    private boolean comesFrom(int node, int x, int y) {
        for (Edge edge : edges.get(node)) {
            if (edge.better() == x && (edge.worse() == y || comesFrom(node, edge.worse(), y))) {
                return true;
            }
        }
        return false;
    }

    int term(int kind, int p, int q) {
        if (kind < 6 || kind > 9 || !isNode(p) || kind != 9 && !isNode(q)) {
            throw new IllegalArgumentException();
        }
        Tree made = new Tree(kind, -1, 0, 0, -1, nodes.get(p), kind == 9 ? null : nodes.get(q));
        if (nodes.size() >= 24 || made.size() > 40) {
            throw new IllegalStateException();
        }
        nodes.add(made);
        parts.add(new int[] {p, q});
        return nodes.size() - 1;
    }

    int condition(int column, int operation, int v) {
        if (column < 0 || column > 3 || operation < 0 || operation > 5) {
            throw new IllegalArgumentException();
        }
        if (conditions.size() >= 4) {
            throw new IllegalStateException();
        }
        conditions.add(new Condition(column, operation, v));
        return conditions.size();
    }

    void free() {
        conditions = new ArrayList<>();
    }

    int compare(int node, int u, int v) {
        need(isNode(node) && rows.containsKey(u) && rows.containsKey(v));
        return better(node, u, v) ? 1 : better(node, v, u) ? 2 : same(node, u, v) ? 3 : 0;
    }

    private boolean same(int node, int u, int v) {
        for (int column : nodes.get(node).columns()) {
            if (rows.get(u)[column] != rows.get(v)[column]) {
                return false;
            }
        }
        return true;
    }

    private boolean better(int node, int u, int v) {
        Tree tree = nodes.get(node);
        int p = tree.isTerm() ? parts.get(node)[0] : -1;
        int q = tree.isTerm() ? parts.get(node)[1] : -1;
        switch (tree.kind()) {
            case 6:
                return better(p, u, v) && (better(q, u, v) || same(q, u, v))
                    || better(q, u, v) && (better(p, u, v) || same(p, u, v));
            case 7:
                return better(p, u, v) || same(p, u, v) && better(q, u, v);
            case 8:
                return better(p, u, v) && better(q, u, v);
            case 9:
                return better(p, v, u);
            default:
                int x = rows.get(u)[tree.column()];
                int y = rows.get(v)[tree.column()];
                return x != y && betterValue(tree, node, x, y);
        }
    }

    private boolean betterValue(Tree tree, int node, int x, int y) {
        switch (tree.kind()) {
            case 0:
                return x < y;
            case 1:
                return x > y;
            case 2:
                return Math.abs((long) x - tree.a()) < Math.abs((long) y - tree.a());
            case 3:
                return distance(x, tree.a(), tree.b()) < distance(y, tree.a(), tree.b());
            case 4:
                Integer ofX = layers.get(node).get(x);
                Integer ofY = layers.get(node).get(y);
                return ofX != null && (ofY == null || ofY > ofX);
            default:
                return comesFrom(node, x, y);
        }
    }

    private static long distance(long x, long a, long b) {
        return a <= x && x <= b ? 0 : Math.min(Math.abs(x - a), Math.abs(x - b));
    }

    private boolean passes(int row, List<Condition> all) {
        for (Condition c : all) {
            int order = Integer.compare(rows.get(row)[c.column()], c.number());
            boolean[] holds = {
                order == 0, order != 0, order < 0, order <= 0, order > 0, order >= 0,
            };
            if (!holds[c.operation()]) {
                return false;
            }
        }
        return true;
    }

    private List<Integer> passing(List<Condition> all) {
        List<Integer> passing = new ArrayList<>();
        for (int row : rows.keySet()) {
            if (passes(row, all)) {
                passing.add(row);
            }
        }
        return passing;
    }

    private List<Integer> bestOf(int node, List<Integer> among) {
        List<Integer> best = new ArrayList<>();
        for (int v : among) {
            if (among.stream().noneMatch(u -> better(node, u, v))) {
                best.add(v);
            }
        }
        return best;
    }

    int best(int node) {
        need(isNode(node));
        answer = bestOf(node, passing(conditions));
        return answer.size();
    }

    int grouped(int node, int column) {
        need(isNode(node) && column >= 0 && column <= 3);
        TreeMap<Integer, List<Integer>> groups = new TreeMap<>();
        for (int row : passing(conditions)) {
            groups.computeIfAbsent(value(row, column), k -> new ArrayList<>()).add(row);
        }
        TreeSet<Integer> all = new TreeSet<>();
        for (List<Integer> group : groups.values()) {
            all.addAll(bestOf(node, group));
        }
        answer = List.copyOf(all);
        return answer.size();
    }

    private TreeMap<Integer, Integer> levels(int node) {
        TreeMap<Integer, Integer> levels = new TreeMap<>();
        List<Integer> passing = passing(conditions);
        for (int row : passing) {
            levelOf(node, row, passing, levels);
        }
        return levels;
    }

    private int levelOf(int node, int row, List<Integer> passing, TreeMap<Integer, Integer> known) {
        if (!known.containsKey(row)) {
            int greatest = 0;
            for (int u : passing) {
                if (better(node, u, row)) {
                    greatest = Math.max(greatest, levelOf(node, u, passing, known));
                }
            }
            known.put(row, greatest + 1);
        }
        return known.get(row);
    }

    int top(int node, int n) {
        need(isNode(node));
        if (n < 0) {
            throw new IllegalArgumentException();
        }
        TreeMap<Integer, Integer> levels = levels(node);
        List<Integer> all = new ArrayList<>(levels.keySet());
        // The sort keeps rows of the same LEVEL as they were: by rising numbers.
        all.sort((u, v) -> levels.get(u) - levels.get(v));
        answer = List.copyOf(all.subList(0, Math.min(n, all.size())));
        return answer.size();
    }

    int level(int node, int row) {
        need(isNode(node) && rows.containsKey(row));
        return levels(node).getOrDefault(row, 0);
    }

    int answer(int i) {
        return of(answer, i);
    }

    private static int of(List<Integer> list, int i) {
        return i == -1 ? list.size() : i >= 0 && i < list.size() ? list.get(i) : -1;
    }

    int reason(int node, int u, int v, int w) {
        need(isNode(node) && rows.containsKey(u) && rows.containsKey(v));
        if (!better(node, u, v) || w < 0 || w > 1) {
            return -1;
        }
        List<Integer> way = new ArrayList<>();
        walk(node, u, v, way);
        return w == 0 ? way.get(way.size() - 1) : way.size();
    }

    private void walk(int node, int u, int v, List<Integer> way) {
        way.add(node);
        if (!nodes.get(node).isTerm()) {
            return;
        }
        int p = parts.get(node)[0];
        int q = parts.get(node)[1];
        switch (nodes.get(node).kind()) {
            case 6 -> walk(compare(p, u, v) == 1 ? p : q, u, v, way);
            case 7 -> walk(compare(p, u, v) == 3 ? q : p, u, v, way);
            case 8 -> walk(p, u, v, way);
            default -> walk(p, v, u, way);
        }
    }

    int save(int s, int node) {
        need(s >= 0 && s <= 3 && isNode(node));
        Question question = new Question();
        question.node = node;
        question.conditions = List.copyOf(conditions);
        question.whenRead = bestOf(node, passing(conditions));
        questions[s] = question;
        return question.whenRead.size();
    }

    int saved(int s, int w, int i) {
        if (s < 0 || s > 3 || questions[s] == null || w < 0 || w > 2) {
            return -1;
        }
        Question question = questions[s];
        List<Integer> now = bestOf(question.node, passing(question.conditions));
        List<Integer> asked = new ArrayList<>(w == 2 ? question.whenRead : now);
        if (w > 0) {
            asked.removeAll(w == 1 ? question.whenRead : now);
        }
        return of(asked, i);
    }

    boolean read(int s) {
        if (s < 0 || s > 3 || questions[s] == null) {
            return false;
        }
        questions[s].whenRead = bestOf(questions[s].node, passing(questions[s].conditions));
        return true;
    }

    int reduce(int node) {
        need(isNode(node));
        form = new ArrayList<>();
        write(reduced(nodes.get(node)), form);
        return form.size();
    }

    private static Tree reduced(Tree tree) {
        if (!tree.isTerm()) {
            return tree;
        }
        Tree at = with(tree.kind(), reduced(tree.p()), tree.q() == null ? null : reduced(tree.q()));
        Tree next = step(at);
        while (next != at) {
            at = next;
            next = step(at);
        }
        return at;
    }

    private static Tree with(int kind, Tree p, Tree q) {
        return new Tree(kind, -1, 0, 0, -1, p, q);
    }

    /** The first rule that fits, taken once; the same tree if none does. */
    private static Tree step(Tree t) {
        Tree p = t.p();
        Tree q = t.q();
        if (t.kind() == 9 && p.kind() == 9) {
            return p.p();
        }
        if (t.kind() == 9 && p.kind() <= 1) {
            return new Tree(1 - p.kind(), p.column(), 0, 0, -1, null, null);
        }
        if (t.isTerm() && t.kind() != 9 && p.equals(q)) {
            return p;
        }
        if (t.kind() == 7 && p.columns().containsAll(q.columns())) {
            return p;
        }
        if ((t.kind() == 6 || t.kind() == 8) && p.kind() == 9 && q.kind() == 9) {
            return with(9, reduced(with(t.kind(), p.p(), q.p())), null);
        }
        return t;
    }

    private static void write(Tree tree, List<Integer> into) {
        into.add(tree.kind());
        if (tree.isTerm()) {
            write(tree.p(), into);
            if (tree.q() != null) {
                write(tree.q(), into);
            }
            return;
        }
        into.add(tree.column());
        if (tree.kind() == 2 || tree.kind() == 3) {
            into.add(tree.a());
        }
        if (tree.kind() == 3) {
            into.add(tree.b());
        }
        if (tree.kind() == 4 || tree.kind() == 5) {
            into.add(tree.node());
        }
    }

    int form(int k) {
        need(k >= 0 && k < form.size());
        return form.get(k);
    }

    private boolean isNode(int node) {
        return node >= 0 && node < nodes.size();
    }

    private static void need(boolean there) {
        if (!there) {
            throw new IndexOutOfBoundsException();
        }
    }
}
