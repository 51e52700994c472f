/**
 * A table of rows that is asked what is best. Nodes (orders of one column, and terms made of nodes)
 * compare two rows; conditions say which rows count; questions can be saved and are kept up.
 */
public final class PreferTable {
    public static final int NONE = -1;

    private static final int COLUMNS = 4;
    private static final int MOST_ROWS_EVER = 120;
    private static final int MOST_ROWS_THERE = 24;
    private static final int MOST_NODES = 24;
    private static final int MOST_SIZE = 40;
    private static final int MOST_CONDITIONS = 4;
    private static final int OPERATIONS = 6;
    private static final int QUESTIONS = 4;
    private static final int GRADED_VALUES = 10;
    private static final int LAST_LAYER = 5;

    private static final int LOW = 0;
    private static final int HIGH = 1;
    private static final int AROUND = 2;
    private static final int BETWEEN = 3;
    private static final int LAYERS = 4;
    private static final int GRAPH = 5;
    private static final int PARETO = 6;
    private static final int PRIOR = 7;
    private static final int BOTH = 8;
    private static final int DUAL = 9;

    private static final int NEITHER = 0;
    private static final int BETTER = 1;
    private static final int WORSE = 2;
    private static final int SAME = 3;

    // A node puts its kind and at most three numbers more into a FORM, and SIZE counts the nodes.
    private static final int MOST_FORM_NUMBERS = 4 * MOST_SIZE;

    private final Rows rows = new Rows();
    private final Node[] nodes = new Node[MOST_NODES];
    private int nodeCount = 0;
    private final Conditions conditions = new Conditions();
    private final Contest contest = new Contest();
    private final RowList answered = new RowList();
    private final RowList nobody = new RowList();
    private final Question[] questions = new Question[QUESTIONS];
    // Counts what can alter a BEST, so that a saved question knows whether its own is still true.
    private int alterations = 0;
    private final int[] formNumbers = new int[MOST_FORM_NUMBERS];
    private int formLength = 0;

    public PreferTable() {
        for (int s = 0; s < QUESTIONS; s++) {
            questions[s] = new Question();
        }
    }

    public int row(int a, int b, int c, int d) throws IllegalStateException {
        if (rows.isFull()) {
            throw new IllegalStateException("no room for another row");
        }
        alterations++;
        return rows.add(a, b, c, d);
    }

    public boolean change(int row, int column, int v) {
        int place = rows.placeOf(row);
        if (place == NONE || !isColumn(column)) {
            return false;
        }
        rows.values[place][column] = v;
        alterations++;
        return true;
    }

    public boolean remove(int row) {
        int place = rows.placeOf(row);
        if (place == NONE) {
            return false;
        }
        rows.drop(place);
        alterations++;
        return true;
    }

    public int value(int row, int column) throws IndexOutOfBoundsException {
        int place = rows.placeOf(row);
        if (place == NONE || !isColumn(column)) {
            throw new IndexOutOfBoundsException("no such row or column");
        }
        return rows.values[place][column];
    }

    public int order(int kind, int column, int a, int b)
            throws IllegalArgumentException, IllegalStateException {
        if (kind < LOW || kind > GRAPH || !isColumn(column) || (kind == BETWEEN && a > b)) {
            throw new IllegalArgumentException("no such order");
        }
        if (nodeCount == MOST_NODES) {
            throw new IllegalStateException("no room for another node");
        }
        return addNode(newOrder(kind, column, a, b));
    }

    public boolean layer(int node, int v, int layer) {
        if (!isNode(node) || !isGraded(v) || layer < NONE || layer > LAST_LAYER) {
            return false;
        }
        if (nodes[node] instanceof Layers layers) {
            layers.layerOf[v] = layer;
            alterations++;
            return true;
        }
        return false;
    }

    public boolean edge(int node, int better, int worse)
            throws IllegalArgumentException, IllegalStateException {
        if (!isNode(node) || !isGraded(better) || !isGraded(worse)) {
            throw new IllegalArgumentException("no such node or value");
        }
        if (nodes[node] instanceof Graph graph) {
            return addEdge(graph, better, worse);
        }
        throw new IllegalArgumentException("the node has no edges");
    }

    public int term(int kind, int p, int q) throws IllegalArgumentException, IllegalStateException {
        if (kind < PARETO || kind > DUAL || !isNode(p) || (kind != DUAL && !isNode(q))) {
            throw new IllegalArgumentException("no such kind or node");
        }
        Node first = nodes[p];
        Node second = kind == DUAL ? first : nodes[q];
        if (nodeCount == MOST_NODES || Term.sizeOf(kind, first, second) > MOST_SIZE) {
            throw new IllegalStateException("too many nodes, or too large a term");
        }
        return addNode(new Term(kind, nodeCount, first, second));
    }

    public int condition(int column, int operation, int v)
            throws IllegalArgumentException, IllegalStateException {
        if (!isColumn(column) || operation < 0 || operation >= OPERATIONS) {
            throw new IllegalArgumentException("no such column or operation");
        }
        if (conditions.count == MOST_CONDITIONS) {
            throw new IllegalStateException("no room for another condition");
        }
        conditions.add(column, operation, v);
        return conditions.count;
    }

    public void free() {
        conditions.clear();
    }

    public int compare(int node, int u, int v) throws IndexOutOfBoundsException {
        int first = rows.placeOf(u);
        int second = rows.placeOf(v);
        if (!isNode(node) || first == NONE || second == NONE) {
            throw new IndexOutOfBoundsException("no such node or row");
        }
        return nodes[node].says(rows.values[first], rows.values[second]);
    }

    public int best(int node) throws IndexOutOfBoundsException {
        if (!isNode(node)) {
            throw new IndexOutOfBoundsException("no such node");
        }
        contest.hold(rows, nodes[node], conditions);
        contest.listUnbeaten(rows, answered);
        return answered.count;
    }

    public int grouped(int node, int column) throws IndexOutOfBoundsException {
        if (!isNode(node) || !isColumn(column)) {
            throw new IndexOutOfBoundsException("no such node or column");
        }
        contest.hold(rows, nodes[node], conditions);
        contest.forgetOtherGroups(rows, column);
        contest.listUnbeaten(rows, answered);
        return answered.count;
    }

    public int top(int node, int n) throws IndexOutOfBoundsException, IllegalArgumentException {
        if (!isNode(node)) {
            throw new IndexOutOfBoundsException("no such node");
        }
        if (n < 0) {
            throw new IllegalArgumentException("fewer than no rows");
        }
        contest.hold(rows, nodes[node], conditions);
        contest.rank();
        contest.listFirst(rows, n, answered);
        return answered.count;
    }

    public int level(int node, int row) throws IndexOutOfBoundsException {
        int place = rows.placeOf(row);
        if (!isNode(node) || place == NONE) {
            throw new IndexOutOfBoundsException("no such node or row");
        }
        contest.hold(rows, nodes[node], conditions);
        contest.rank();
        return contest.levels[place];
    }

    public int answer(int i) {
        return answered.pick(nobody, i);
    }

    public int reason(int node, int u, int v, int w) throws IndexOutOfBoundsException {
        int better = rows.placeOf(u);
        int worse = rows.placeOf(v);
        if (!isNode(node) || better == NONE || worse == NONE) {
            throw new IndexOutOfBoundsException("no such node or row");
        }
        if (nodes[node].says(rows.values[better], rows.values[worse]) != BETTER) {
            return NONE;
        }
        return walkToDecider(nodes[node], rows.values[better], rows.values[worse], w);
    }

    public int save(int s, int node) throws IndexOutOfBoundsException {
        if (!isQuestion(s) || !isNode(node)) {
            throw new IndexOutOfBoundsException("no such question or node");
        }
        Question question = questions[s];
        question.ask(nodes[node], conditions);
        markRead(question);
        return question.current.count;
    }

    public int saved(int s, int w, int i) {
        if (!isSaved(s)) {
            return NONE;
        }
        Question question = questions[s];
        keepUp(question);
        switch (w) {
            case 0:
                return question.current.pick(nobody, i);
            case 1:
                return question.current.pick(question.lastRead, i);
            case 2:
                return question.lastRead.pick(question.current, i);
            default:
                return NONE;
        }
    }

    public boolean read(int s) {
        if (!isSaved(s)) {
            return false;
        }
        markRead(questions[s]);
        return true;
    }

    public int reduce(int node) throws IndexOutOfBoundsException {
        if (!isNode(node)) {
            throw new IndexOutOfBoundsException("no such node");
        }
        formLength = nodes[node].putReduced(formNumbers, 0);
        return formLength;
    }

    public int form(int k) throws IndexOutOfBoundsException {
        if (k < 0 || k >= formLength) {
            throw new IndexOutOfBoundsException("no such number in the form");
        }
        return formNumbers[k];
    }

    private static boolean isColumn(int column) {
        return column >= 0 && column < COLUMNS;
    }

    /** Only these values can have a layer or edges. */
    private static boolean isGraded(int v) {
        return v >= 0 && v < GRADED_VALUES;
    }

    private boolean isNode(int node) {
        return node >= 0 && node < nodeCount;
    }

    private static boolean isQuestion(int s) {
        return s >= 0 && s < QUESTIONS;
    }

    private boolean isSaved(int s) {
        return isQuestion(s) && questions[s].node != null;
    }

    private Node newOrder(int kind, int column, int a, int b) {
        switch (kind) {
            case LAYERS:
                return new Layers(nodeCount, column);
            case GRAPH:
                return new Graph(nodeCount, column);
            default:
                return new ValueOrder(kind, nodeCount, column, a, kind == AROUND ? a : b);
        }
    }

    private int addNode(Node node) {
        nodes[nodeCount] = node;
        nodeCount++;
        return node.number;
    }

    private boolean addEdge(Graph graph, int better, int worse) {
        if (better == worse || graph.leads(worse, better)) {
            throw new IllegalStateException("a value would be better than itself");
        }
        if (graph.hasEdge(better, worse)) {
            return false;
        }
        graph.join(better, worse);
        alterations++;
        return true;
    }

    /** What is asked by w of the way from a node that says BETTER down to the order that decides. */
    private static int walkToDecider(Node start, int[] u, int[] v, int w) {
        Node at = start;
        int[] better = u;
        int[] worse = v;
        int passed = 1;
        for (; passed < MOST_NODES && at instanceof Term term; passed++) {
            at = term.partThatDecides(better, worse);
            if (term.kind == DUAL) {
                int[] swapped = better;
                better = worse;
                worse = swapped;
            }
        }
        if (w == 0) {
            return at.number;
        }
        return w == 1 ? passed : NONE;
    }

    private void keepUp(Question question) {
        if (question.alterationsSeen == alterations) {
            return;
        }
        contest.hold(rows, question.node, question.conditions);
        contest.listUnbeaten(rows, question.current);
        question.alterationsSeen = alterations;
    }

    private void markRead(Question question) {
        keepUp(question);
        question.lastRead.copyFrom(question.current);
    }

    /** The rows that are there, by rising numbers; a row's place is not its number. */
    private static final class Rows {
        final int[] numbers = new int[MOST_ROWS_THERE];
        final int[][] values = new int[MOST_ROWS_THERE][COLUMNS];
        int count = 0;
        int made = 0;

        boolean isFull() {
            return count == MOST_ROWS_THERE || made == MOST_ROWS_EVER;
        }

        int add(int a, int b, int c, int d) {
            int number = made;
            numbers[count] = number;
            values[count][0] = a;
            values[count][1] = b;
            values[count][2] = c;
            values[count][3] = d;
            count++;
            made++;
            return number;
        }

        int placeOf(int number) {
            for (int i = 0; i < count; i++) {
                if (numbers[i] == number) {
                    return i;
                }
            }
            return NONE;
        }

        void drop(int place) {
            count--;
            for (int i = place; i < count; i++) {
                numbers[i] = numbers[i + 1];
                System.arraycopy(values[i + 1], 0, values[i], 0, COLUMNS);
            }
        }
    }

    /** Row numbers in the order in which they were added; never more than rows can be there. */
    private static final class RowList {
        final int[] numbers = new int[MOST_ROWS_THERE];
        int count = 0;

        void clear() {
            count = 0;
        }

        void add(int number) {
            numbers[count] = number;
            count++;
        }

        void copyFrom(RowList other) {
            System.arraycopy(other.numbers, 0, numbers, 0, other.count);
            count = other.count;
        }

        boolean has(int number) {
            for (int i = 0; i < count; i++) {
                if (numbers[i] == number) {
                    return true;
                }
            }
            return false;
        }

        /** Number i of those that the other list has not; how many these are, if i is -1. */
        int pick(RowList other, int i) {
            int met = 0;
            for (int k = 0; k < count; k++) {
                if (!other.has(numbers[k])) {
                    if (met == i) {
                        return numbers[k];
                    }
                    met++;
                }
            }
            return i == -1 ? met : NONE;
        }
    }

    private static final class Conditions {
        final int[] columns = new int[MOST_CONDITIONS];
        final int[] operations = new int[MOST_CONDITIONS];
        final int[] bounds = new int[MOST_CONDITIONS];
        int count = 0;

        void clear() {
            count = 0;
        }

        void add(int column, int operation, int bound) {
            columns[count] = column;
            operations[count] = operation;
            bounds[count] = bound;
            count++;
        }

        void copyFrom(Conditions other) {
            clear();
            for (int i = 0; i < other.count; i++) {
                add(other.columns[i], other.operations[i], other.bounds[i]);
            }
        }

        boolean pass(int[] values) {
            for (int i = 0; i < count; i++) {
                if (!holds(values[columns[i]], operations[i], bounds[i])) {
                    return false;
                }
            }
            return true;
        }

        private static boolean holds(int x, int operation, int bound) {
            switch (operation) {
                case 0:
                    return x == bound;
                case 1:
                    return x != bound;
                case 2:
                    return x < bound;
                case 3:
                    return x <= bound;
                case 4:
                    return x > bound;
                default:
                    return x >= bound;
            }
        }
    }

    private static final class Question {
        // None as long as nothing has been saved here.
        Node node = null;
        final Conditions conditions = new Conditions();
        final RowList current = new RowList();
        final RowList lastRead = new RowList();
        int alterationsSeen = NONE;

        void ask(Node asked, Conditions present) {
            node = asked;
            conditions.copyFrom(present);
            alterationsSeen = NONE;
        }
    }

    /** Who beats whom among the rows that pass; a set of rows is a mask of their places. */
    private static final class Contest {
        final int[] beaters = new int[MOST_ROWS_THERE];
        final int[] levels = new int[MOST_ROWS_THERE];
        int passing = 0;

        void hold(Rows rows, Node node, Conditions conditions) {
            letIn(rows, conditions);
            for (int i = 0; i < rows.count; i++) {
                for (int j = i + 1; j < rows.count; j++) {
                    if (isIn(passing, i) && isIn(passing, j)) {
                        note(i, j, node.says(rows.values[i], rows.values[j]));
                    }
                }
            }
        }

        private void letIn(Rows rows, Conditions conditions) {
            passing = 0;
            for (int i = 0; i < rows.count; i++) {
                beaters[i] = 0;
                if (conditions.pass(rows.values[i])) {
                    passing |= 1 << i;
                }
            }
        }

        // One look serves both ways: a node says WORSE of u, v just where it says BETTER of v, u.
        private void note(int i, int j, int verdict) {
            if (verdict == BETTER) {
                beaters[j] |= 1 << i;
            } else if (verdict == WORSE) {
                beaters[i] |= 1 << j;
            }
        }

        private static boolean isIn(int places, int i) {
            return (places >> i & 1) == 1;
        }

        void forgetOtherGroups(Rows rows, int column) {
            for (int i = 0; i < rows.count; i++) {
                for (int j = 0; j < rows.count; j++) {
                    if (rows.values[i][column] != rows.values[j][column]) {
                        beaters[i] &= ~(1 << j);
                    }
                }
            }
        }

        void listUnbeaten(Rows rows, RowList list) {
            list.clear();
            for (int i = 0; i < rows.count; i++) {
                if (isIn(passing, i) && beaters[i] == 0) {
                    list.add(rows.numbers[i]);
                }
            }
        }

        /** BEATS has no circles, so as long as rows are left each round gives one its LEVEL. */
        void rank() {
            setLevel(~passing, 0);
            int left = passing;
            for (int round = 1; round <= MOST_ROWS_THERE && left != 0; round++) {
                int unbeaten = unbeatenAmong(left);
                setLevel(unbeaten, round);
                left &= ~unbeaten;
            }
        }

        private int unbeatenAmong(int left) {
            int unbeaten = 0;
            for (int i = 0; i < MOST_ROWS_THERE; i++) {
                if (isIn(left, i) && (beaters[i] & left) == 0) {
                    unbeaten |= 1 << i;
                }
            }
            return unbeaten;
        }

        private void setLevel(int places, int given) {
            for (int i = 0; i < MOST_ROWS_THERE; i++) {
                if (isIn(places, i)) {
                    levels[i] = given;
                }
            }
        }

        void listFirst(Rows rows, int n, RowList list) {
            list.clear();
            for (int wanted = 1; wanted <= rows.count; wanted++) {
                for (int i = 0; i < rows.count && list.count < n; i++) {
                    if (levels[i] == wanted) {
                        list.add(rows.numbers[i]);
                    }
                }
            }
        }
    }

    /**
     * What compares two rows. A term is made of nodes with smaller numbers alone, and a 25th node is
     * refused, so what goes down from node to node goes at most 24 deep.
     */
    private abstract static class Node {
        final int kind;
        final int number;
        final int size;
        // A mask of the COLUMNS.
        final int columns;

        Node(int kind, int number, int size, int columns) {
            this.kind = kind;
            this.number = number;
            this.size = size;
            this.columns = columns;
        }

        abstract int says(int[] u, int[] v);

        /** Puts the FORM of this node, REDUCED, into numbers from start on: where it ends. */
        abstract int putReduced(int[] numbers, int start);
    }

    private abstract static class Order extends Node {
        final int column;

        Order(int kind, int number, int column) {
            super(kind, number, 1, 1 << column);
            this.column = column;
        }

        int says(int[] u, int[] v) {
            int x = u[column];
            int y = v[column];
            if (x == y) {
                return SAME;
            }
            if (prefers(x, y)) {
                return BETTER;
            }
            return prefers(y, x) ? WORSE : NEITHER;
        }

        /** Whether x is better than y, which is another value. */
        abstract boolean prefers(int x, int y);

        int putReduced(int[] numbers, int start) {
            numbers[start] = kind;
            numbers[start + 1] = column;
            return putOwn(numbers, start + 2);
        }

        /** What tells this order from others of its kind and column: where that ends. */
        int putOwn(int[] numbers, int start) {
            numbers[start] = number;
            return start + 1;
        }
    }

    /** LOW, HIGH, AROUND (from a to a) and BETWEEN, which look at nothing but numbers. */
    private static final class ValueOrder extends Order {
        final int from;
        final int to;

        ValueOrder(int kind, int number, int column, int from, int to) {
            super(kind, number, column);
            this.from = from;
            this.to = to;
        }

        boolean prefers(int x, int y) {
            switch (kind) {
                case LOW:
                    return x < y;
                case HIGH:
                    return x > y;
                default:
                    return distance(x) < distance(y);
            }
        }

        // Two ints can be farther apart than an int can tell.
        private long distance(int x) {
            if (x < from) {
                return (long) from - x;
            }
            return x > to ? (long) x - to : 0L;
        }

        int putOwn(int[] numbers, int start) {
            if (kind == LOW || kind == HIGH) {
                return start;
            }
            numbers[start] = from;
            if (kind == AROUND) {
                return start + 1;
            }
            numbers[start + 1] = to;
            return start + 2;
        }
    }

    private static final class Layers extends Order {
        final int[] layerOf = new int[GRADED_VALUES];

        Layers(int number, int column) {
            super(LAYERS, number, column);
            for (int v = 0; v < GRADED_VALUES; v++) {
                layerOf[v] = NONE;
            }
        }

        boolean prefers(int x, int y) {
            int ofX = find(x);
            int ofY = find(y);
            return ofX != NONE && (ofY == NONE || ofY > ofX);
        }

        private int find(int v) {
            return isGraded(v) ? layerOf[v] : NONE;
        }
    }

    private static final class Graph extends Order {
        // Masks of values, by the better value.
        final int[] edges = new int[GRADED_VALUES];
        final int[] reached = new int[GRADED_VALUES];

        Graph(int number, int column) {
            super(GRAPH, number, column);
        }

        boolean prefers(int x, int y) {
            return isGraded(x) && isGraded(y) && leads(x, y);
        }

        boolean leads(int better, int worse) {
            return (reached[better] >> worse & 1) == 1;
        }

        boolean hasEdge(int better, int worse) {
            return (edges[better] >> worse & 1) == 1;
        }

        void join(int better, int worse) {
            edges[better] |= 1 << worse;
            int news = 1 << worse | reached[worse];
            for (int v = 0; v < GRADED_VALUES; v++) {
                if (v == better || leads(v, better)) {
                    reached[v] |= news;
                }
            }
        }
    }

    private static final class Term extends Node {
        final Node p;
        // The same as p in DUAL, where it does not count.
        final Node q;

        Term(int kind, int number, Node p, Node q) {
            super(kind, number, sizeOf(kind, p, q), p.columns | q.columns);
            this.p = p;
            this.q = q;
        }

        static int sizeOf(int kind, Node p, Node q) {
            return kind == DUAL ? 1 + p.size : 1 + p.size + q.size;
        }

        int says(int[] u, int[] v) {
            int first = p.says(u, v);
            if (kind == DUAL) {
                return changedOver(first);
            }
            if (kind == PRIOR) {
                return first == SAME ? q.says(u, v) : first;
            }
            int second = q.says(u, v);
            if (first == second) {
                return first;
            }
            return kind == PARETO ? paretoOf(first, second) : NEITHER;
        }

        private static int changedOver(int verdict) {
            if (verdict == BETTER) {
                return WORSE;
            }
            return verdict == WORSE ? BETTER : verdict;
        }

        /** Of two verdicts that differ. */
        private static int paretoOf(int first, int second) {
            if (first == SAME) {
                return second;
            }
            return second == SAME ? first : NEITHER;
        }

        /** The next node on the way to the reason, if this one says BETTER. */
        Node partThatDecides(int[] u, int[] v) {
            switch (kind) {
                case PARETO:
                    return p.says(u, v) == BETTER ? p : q;
                case PRIOR:
                    return p.says(u, v) == SAME ? q : p;
                default:
                    return p;
            }
        }

        int putReduced(int[] numbers, int start) {
            numbers[start] = kind;
            int middle = p.putReduced(numbers, start + 1);
            if (kind == DUAL) {
                return reduceDual(numbers, start, middle);
            }
            int end = q.putReduced(numbers, middle);
            if (areAlike(numbers, start + 1, middle, end) || pDecidesAlone()) {
                return moveBack(numbers, start + 1, middle, 1);
            }
            if (kind != PRIOR && numbers[start + 1] == DUAL && numbers[middle] == DUAL) {
                return pullDualOut(numbers, start, middle, end);
            }
            return end;
        }

        private static int reduceDual(int[] numbers, int start, int end) {
            int inner = numbers[start + 1];
            if (inner == DUAL) {
                return moveBack(numbers, start + 2, end, 2);
            }
            if (inner == LOW || inner == HIGH) {
                numbers[start + 1] = inner == LOW ? HIGH : LOW;
                return moveBack(numbers, start + 1, end, 1);
            }
            return end;
        }

        /** A FORM tells where it ends, so nodes are ALIKE just where their FORMs are the same. */
        private static boolean areAlike(int[] numbers, int first, int second, int end) {
            int length = second - first;
            if (end - second != length) {
                return false;
            }
            for (int i = 0; i < length; i++) {
                if (numbers[first + i] != numbers[second + i]) {
                    return false;
                }
            }
            return true;
        }

        // Reducing never alters the columns of a node, so those of p and q as they are will do.
        private boolean pDecidesAlone() {
            return kind == PRIOR && (q.columns & ~p.columns) == 0;
        }

        /**
         * From kind, DUAL, p, DUAL, q to DUAL, kind, p, q. Nothing fits after that: p and q are
         * neither ALIKE nor DUALs, or their DUALs would have been reduced before.
         */
        private static int pullDualOut(int[] numbers, int start, int middle, int end) {
            numbers[start + 1] = numbers[start];
            numbers[start] = DUAL;
            return moveBack(numbers, middle + 1, end, 1);
        }

        private static int moveBack(int[] numbers, int from, int end, int by) {
            System.arraycopy(numbers, from, numbers, from - by, end - from);
            return end - by;
        }
    }
}
