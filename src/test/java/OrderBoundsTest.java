/** NODES, ORDERS, and promises 6 to 8, at their bounds: a test for each sentence. */
public final class OrderBoundsTest {
    private static final int LEAST = Bounds.LEAST;
    private static final int GREATEST = Bounds.GREATEST;
    private static final int LOW = 0;
    private static final int HIGH = 1;
    private static final int AROUND = 2;
    private static final int BETWEEN = 3;
    private static final int LAYERS = 4;
    private static final int GRAPH = 5;
    private static final int NEITHER = 0;
    private static final int BETTER = 1;
    private static final int WORSE = 2;
    private static final int SAME = 3;

    // By rising size; those from 32 on are taken for others where a mask is shifted by them.
    private static final int[] NOT_0_TO_9 = {LEAST, -32, -1, 10, 31, 32, 41, 64, 256, GREATEST};

    public static void main(String[] args) {
        Check.sentence("NODES are numbered 0, 1, .., at most 24", OrderBoundsTest::atMost24Nodes);
        Check.sentence("they say SAME if both values are the same", OrderBoundsTest::sameValues);
        Check.sentence("0 LOW: BETTER if x is less, else WORSE", OrderBoundsTest::low);
        Check.sentence("1 HIGH: the other way round", OrderBoundsTest::high);
        Check.sentence("2 AROUND a: with the DISTANCES of both values from a",
            OrderBoundsTest::aroundNear);
        Check.sentence("(as exact numbers)", OrderBoundsTest::exactDistances);
        Check.sentence("the DISTANCE of a value being 0 from a to b",
            OrderBoundsTest::insideBetween);
        Check.sentence("else that from the nearer one of a and b", OrderBoundsTest::outsideBetween);
        Check.sentence("likewise (3 BETWEEN: as exact numbers)", OrderBoundsTest::exactBetween);
        layersAndGraph();
        newOrders();
        Check.sentence("7: The value v of a node LAYERS has this layer: true",
            OrderBoundsTest::firstAndLastLayers);
        Check.sentence("7: (-1: none)", OrderBoundsTest::layerTakenAway);
        Check.sentence("7: false if the node is no such one", OrderBoundsTest::layerOfNoSuchNode);
        Check.sentence("7: false if .. v is not 0 .. 9", OrderBoundsTest::layerOfNoSuchValue);
        Check.sentence("7: false if .. layer not -1 .. 5", OrderBoundsTest::noSuchLayer);
        newEdges();
        Check.end();
    }

    private static void layersAndGraph() {
        Check.sentence("each of the values 0 .. 9 has a LAYER 0 .. 5 or none (at first none)",
            OrderBoundsTest::atFirstNoLayers);
        Check.sentence("BETTER if x has a layer and y has a greater one or none",
            OrderBoundsTest::everyTwoLayers);
        Check.sentence("each of the values 0 .. 9 has a LAYER (no other value has)",
            OrderBoundsTest::otherValuesHaveNoLayer);
        Check.sentence("between the values 0 .. 9 there are EDGES (at first none)",
            OrderBoundsTest::atFirstNoEdges);
        Check.sentence("BETTER if one comes from x to y along edges", OrderBoundsTest::longestWay);
        Check.sentence("between the values 0 .. 9 there are EDGES (not between others)",
            OrderBoundsTest::otherValuesHaveNoEdges);
    }

    private static void newOrders() {
        Check.sentence("6: A new order of a kind 0 .. 5: its number", OrderBoundsTest::everyOrder);
        Check.sentence("6: (a counts for 2 and 3, b for 3)", OrderBoundsTest::whereAAndBCount);
        Check.sentence("6: IllegalArgumentException if there is no such kind",
            OrderBoundsTest::noSuchKind);
        Check.sentence("6: IllegalArgumentException if there is no such .. column",
            OrderBoundsTest::noSuchColumn);
        Check.sentence("6: or for 3 a is above b", OrderBoundsTest::aAboveB);
        Check.sentence("6: IllegalStateException if there are 24 nodes",
            OrderBoundsTest::noOrderBeside24);
    }

    private static void newEdges() {
        Check.sentence("8: One more EDGE in a node GRAPH: true", OrderBoundsTest::mostEdges);
        Check.sentence("8: false if it is there", OrderBoundsTest::edgeThatIsThere);
        Check.sentence("8: IllegalArgumentException if the node is no such one",
            OrderBoundsTest::edgeOfNoSuchNode);
        Check.sentence("8: IllegalArgumentException if .. a value is not 0 .. 9",
            OrderBoundsTest::edgeOfNoSuchValue);
        Check.sentence("8: IllegalStateException if one could come from a value to itself then",
            OrderBoundsTest::circles);
    }

    /** What an order of column 1 says of two values; both ways round must fit together. */
    private static void expect(int kind, int a, int b, int x, int y, int due) {
        PreferTable t = Bounds.tableOf(1, x, y);
        t.order(kind, 1, a, b);
        expect(t, x, y, due);
    }

    /** What node 0, an order of column 1, says of two values. */
    private static void expect(PreferTable t, int x, int y, int due) {
        t.change(0, 1, x);
        t.change(1, 1, y);
        int dueBack = due == BETTER ? WORSE : due == WORSE ? BETTER : due;
        Check.same("compare " + x + " with " + y, t.compare(0, 0, 1), due);
        Check.same("compare " + y + " with " + x, t.compare(0, 1, 0), dueBack);
    }

    private static PreferTable tableWith(int kind) {
        PreferTable t = Bounds.withRows(2);
        t.order(kind, 1, 0, 0);
        return t;
    }

    private static void atMost24Nodes() {
        PreferTable t = Bounds.withRows(2);
        for (int i = 0; i < 23; i++) {
            Check.same("a node", i % 3 == 2 ? t.term(9, i - 1, 0) : t.order(1, 0, 0, 0), i);
        }
        Check.same("node 23", t.order(0, 0, 0, 0), 23);
        Check.badState("one more order", () -> t.order(0, 0, 0, 0));
        Check.badState("one more term", () -> t.term(9, 0, 0));
        Check.same("node 23 compares", t.compare(23, 0, 1), BETTER);
        Check.outside("there is no node 24", () -> t.compare(24, 0, 1));
        Check.same("node 0 is as it was", t.compare(0, 0, 1), WORSE);
    }

    private static void sameValues() {
        for (int kind = LOW; kind <= GRAPH; kind++) {
            PreferTable t = tableWith(kind);
            t.layer(0, 0, 5);
            for (int v : new int[] {LEAST, -1, 0, 1, 9, 10, 32, GREATEST}) {
                expect(t, v, v, SAME);
            }
        }
    }

    private static void low() {
        expect(LOW, 0, 0, LEAST, LEAST + 1, BETTER);
        expect(LOW, 0, 0, GREATEST - 1, GREATEST, BETTER);
        expect(LOW, 0, 0, LEAST, GREATEST, BETTER);
        expect(LOW, 0, 0, -1, 0, BETTER);
        expect(LOW, 0, 0, GREATEST, -1, WORSE);
        expect(LOW, GREATEST, LEAST, 1, 2, BETTER);
    }

    private static void high() {
        expect(HIGH, 0, 0, LEAST, LEAST + 1, WORSE);
        expect(HIGH, 0, 0, GREATEST - 1, GREATEST, WORSE);
        expect(HIGH, 0, 0, LEAST, GREATEST, WORSE);
        expect(HIGH, 0, 0, -1, 0, WORSE);
        expect(HIGH, 0, 0, GREATEST, -1, BETTER);
        expect(HIGH, GREATEST, LEAST, 1, 2, WORSE);
    }

    private static void aroundNear() {
        expect(AROUND, 5, 0, 5, 4, BETTER);
        expect(AROUND, 5, 0, 5, 6, BETTER);
        expect(AROUND, 5, 0, 4, 6, NEITHER);
        expect(AROUND, 5, 0, 4, 7, BETTER);
        expect(AROUND, 5, 0, 3, 6, WORSE);
        expect(AROUND, -5, 0, 0, -11, BETTER);
        expect(AROUND, -5, 0, 0, -10, NEITHER);
        expect(AROUND, 0, 9, -1, 1, NEITHER);
    }

    private static void exactDistances() {
        expect(AROUND, 0, 0, LEAST, GREATEST, WORSE);
        expect(AROUND, 0, 0, LEAST, 1, WORSE);
        expect(AROUND, 0, 0, LEAST + 1, GREATEST, NEITHER);
        expect(AROUND, -1, 0, LEAST, GREATEST, BETTER);
        expect(AROUND, -1, 0, LEAST, GREATEST - 1, NEITHER);
        expect(AROUND, GREATEST, 0, LEAST, LEAST + 1, WORSE);
        expect(AROUND, GREATEST, 0, LEAST, GREATEST - 1, WORSE);
        expect(AROUND, GREATEST, 0, LEAST, GREATEST, WORSE);
        expect(AROUND, GREATEST, 0, -1, 0, WORSE);
        expect(AROUND, GREATEST, 0, -2, GREATEST, WORSE);
        expect(AROUND, LEAST, 0, GREATEST, GREATEST - 1, WORSE);
        expect(AROUND, LEAST, 0, GREATEST, LEAST + 1, WORSE);
        expect(AROUND, LEAST, 0, LEAST, GREATEST, BETTER);
        expect(AROUND, LEAST, 0, -1, 0, BETTER);
        expect(AROUND, LEAST, 0, 0, 1, BETTER);
        expect(AROUND, 1, 0, LEAST, GREATEST, WORSE);
        expect(AROUND, 1, 0, LEAST + 2, GREATEST, WORSE);
        expect(AROUND, 1, 0, LEAST + 3, GREATEST, NEITHER);
        expect(AROUND, 0, 0, (1 << 24) + 1, 1 << 24, WORSE);
        expect(AROUND, 0, 0, GREATEST, GREATEST - 1, WORSE);
    }

    private static void insideBetween() {
        expect(BETWEEN, 3, 6, 3, 6, NEITHER);
        expect(BETWEEN, 3, 6, 4, 5, NEITHER);
        expect(BETWEEN, 3, 6, 3, 2, BETTER);
        expect(BETWEEN, 3, 6, 6, 7, BETTER);
        expect(BETWEEN, 3, 6, 6, 2, BETTER);
        expect(BETWEEN, 5, 5, 5, 4, BETTER);
        expect(BETWEEN, 5, 5, 5, 6, BETTER);
        expect(BETWEEN, -6, -3, -3, -2, BETTER);
        expect(BETWEEN, -6, -3, -6, -7, BETTER);
        expect(BETWEEN, -6, -3, -6, -3, NEITHER);
    }

    private static void outsideBetween() {
        expect(BETWEEN, 3, 6, 2, 7, NEITHER);
        expect(BETWEEN, 3, 6, 2, 8, BETTER);
        expect(BETWEEN, 3, 6, 1, 7, WORSE);
        expect(BETWEEN, 3, 6, 1, 2, WORSE);
        expect(BETWEEN, 3, 6, 7, 8, BETTER);
        expect(BETWEEN, 0, 100, -1, 102, BETTER);
        expect(BETWEEN, 0, 100, -2, 101, WORSE);
        expect(BETWEEN, 5, 5, 4, 6, NEITHER);
    }

    private static void exactBetween() {
        expect(BETWEEN, LEAST, GREATEST, LEAST, GREATEST, NEITHER);
        expect(BETWEEN, LEAST, GREATEST, -1, 0, NEITHER);
        expect(BETWEEN, LEAST, LEAST, LEAST, LEAST + 1, BETTER);
        expect(BETWEEN, LEAST, LEAST, GREATEST - 1, GREATEST, BETTER);
        expect(BETWEEN, GREATEST, GREATEST, GREATEST, GREATEST - 1, BETTER);
        expect(BETWEEN, GREATEST, GREATEST, LEAST, LEAST + 1, WORSE);
        expect(BETWEEN, GREATEST, GREATEST, LEAST, GREATEST - 1, WORSE);
        expect(BETWEEN, -1, 0, LEAST, GREATEST, NEITHER);
        expect(BETWEEN, -1, 1, LEAST, GREATEST, WORSE);
        expect(BETWEEN, -2, 0, LEAST, GREATEST, BETTER);
        expect(BETWEEN, LEAST, 0, GREATEST, LEAST, WORSE);
        expect(BETWEEN, LEAST, 0, GREATEST, 1, WORSE);
        expect(BETWEEN, 0, GREATEST, LEAST, -1, WORSE);
        expect(BETWEEN, 0, GREATEST, LEAST, 0, WORSE);
        expect(BETWEEN, LEAST, -2, GREATEST, -1, WORSE);
        expect(BETWEEN, 2, GREATEST, LEAST, 1, WORSE);
    }

    private static void atFirstNoLayers() {
        PreferTable t = tableWith(LAYERS);
        for (int x = 0; x < 10; x++) {
            expect(t, x, (x + 1) % 10, NEITHER);
            expect(t, x, 10, NEITHER);
        }
    }

    /** Value 3 has each layer or none against value 7, which has each layer or none. */
    private static void everyTwoLayers() {
        for (int ofX = -1; ofX <= 5; ofX++) {
            PreferTable t = tableWith(LAYERS);
            Check.yes("layer(0, 3, " + ofX + ")", t.layer(0, 3, ofX));
            for (int ofY = -1; ofY <= 5; ofY++) {
                Check.yes("layer(0, 7, " + ofY + ")", t.layer(0, 7, ofY));
                boolean isBetter = ofX >= 0 && (ofY > ofX || ofY == -1);
                boolean isWorse = ofY >= 0 && (ofX > ofY || ofX == -1);
                expect(t, 3, 7, isBetter ? BETTER : isWorse ? WORSE : NEITHER);
            }
        }
    }

    private static void otherValuesHaveNoLayer() {
        PreferTable t = tableWith(LAYERS);
        for (int v = 0; v < 10; v++) {
            t.layer(0, v, 5 - v % 6);
        }
        for (int i = 0; i < NOT_0_TO_9.length - 1; i++) {
            expect(t, NOT_0_TO_9[i], NOT_0_TO_9[i + 1], NEITHER);
            expect(t, 0, NOT_0_TO_9[i], BETTER);
            expect(t, NOT_0_TO_9[i], 9, WORSE);
        }
        expect(t, 0, GREATEST, BETTER);
    }

    private static void atFirstNoEdges() {
        PreferTable t = tableWith(GRAPH);
        for (int x = 0; x < 10; x++) {
            expect(t, x, (x + 1) % 10, NEITHER);
            expect(t, x, 10, NEITHER);
        }
    }

    private static void longestWay() {
        PreferTable t = tableWith(GRAPH);
        for (int i = 0; i < 9; i++) {
            Check.yes("edge", t.edge(0, i * 3 % 10, (i + 1) * 3 % 10));
        }
        for (int i = 0; i < 9; i++) {
            expect(t, i * 3 % 10, 7, BETTER);
            expect(t, (i + 1) * 3 % 10, 0, WORSE);
        }
        PreferTable fork = tableWith(GRAPH);
        fork.edge(0, 0, 1);
        fork.edge(0, 0, 9);
        fork.edge(0, 2, 9);
        expect(fork, 0, 9, BETTER);
        expect(fork, 1, 9, NEITHER);
        expect(fork, 0, 2, NEITHER);
        expect(fork, 1, 2, NEITHER);
    }

    private static void otherValuesHaveNoEdges() {
        PreferTable t = tableWith(GRAPH);
        for (int v = 0; v < 9; v++) {
            t.edge(0, v, v + 1);
        }
        for (int i = 0; i < NOT_0_TO_9.length - 1; i++) {
            expect(t, NOT_0_TO_9[i], NOT_0_TO_9[i + 1], NEITHER);
            expect(t, 0, NOT_0_TO_9[i], NEITHER);
            expect(t, NOT_0_TO_9[i], 9, NEITHER);
        }
        expect(t, 0, GREATEST, NEITHER);
        expect(t, GREATEST, 9, NEITHER);
    }

    private static void everyOrder() {
        for (int column = 0; column < 4; column++) {
            PreferTable t = Bounds.tableOf(column, 7, 8, 8);
            for (int kind = LOW; kind <= GRAPH; kind++) {
                Check.same("order", t.order(kind, column, 8, 9), kind);
            }
            t.layer(LAYERS, 7, 0);
            t.edge(GRAPH, 7, 8);
            int[] due = {BETTER, WORSE, WORSE, WORSE, BETTER, BETTER};
            for (int kind = LOW; kind <= GRAPH; kind++) {
                Check.same("compare 7, 8", t.compare(kind, 0, 1), due[kind]);
                Check.same("only this column counts", t.compare(kind, 1, 2), SAME);
            }
        }
    }

    /** Any int will do where it does not count; the FORM has what counts alone. */
    private static void whereAAndBCount() {
        int[] ends = {LEAST, 0, GREATEST};
        for (int a : ends) {
            for (int b : ends) {
                PreferTable t = new PreferTable();
                Check.same("LOW", t.order(LOW, 0, a, b), 0);
                Check.same("HIGH", t.order(HIGH, 1, a, b), 1);
                Check.same("AROUND", t.order(AROUND, 2, a, b), 2);
                Check.same("LAYERS", t.order(LAYERS, 3, a, b), 3);
                Check.same("GRAPH", t.order(GRAPH, 0, a, b), 4);
                Check.same("the FORM of LOW", Check.form(t, 0), "0 0");
                Check.same("the FORM of HIGH", Check.form(t, 1), "1 1");
                Check.same("the FORM of AROUND", Check.form(t, 2), "2 2 " + a);
                Check.same("the FORM of LAYERS", Check.form(t, 3), "4 3 3");
                Check.same("the FORM of GRAPH", Check.form(t, 4), "5 0 4");
                if (a <= b) {
                    Check.same("BETWEEN", t.order(BETWEEN, 1, a, b), 5);
                    Check.same("the FORM of BETWEEN", Check.form(t, 5), "3 1 " + a + " " + b);
                }
            }
        }
    }

    private static void noSuchKind() {
        PreferTable t = new PreferTable();
        for (int kind : Bounds.outside(5)) {
            Check.badArgument("order(" + kind + ", ..)", () -> t.order(kind, 0, 0, 0));
        }
        Check.badArgument("a kind of terms", () -> t.order(9, 0, 0, 0));
        Check.same("none has come", t.order(LOW, 0, 0, 0), 0);
    }

    private static void noSuchColumn() {
        PreferTable t = new PreferTable();
        for (int column : Bounds.outside(3)) {
            for (int kind = LOW; kind <= GRAPH; kind++) {
                int k = kind;
                Check.badArgument("order(" + k + ", " + column + ", ..)",
                    () -> t.order(k, column, 0, 0));
            }
        }
        Check.same("none has come", t.order(LOW, 3, 0, 0), 0);
    }

    private static void aAboveB() {
        PreferTable t = new PreferTable();
        int[][] above = {
            {1, 0}, {0, -1}, {GREATEST, LEAST}, {GREATEST, GREATEST - 1}, {LEAST + 1, LEAST},
            {0, LEAST}, {GREATEST, 0}, {GREATEST, -2},
        };
        for (int[] ab : above) {
            Check.badArgument("BETWEEN " + ab[0] + ", " + ab[1],
                () -> t.order(BETWEEN, 0, ab[0], ab[1]));
        }
        Check.same("0, 0", t.order(BETWEEN, 0, 0, 0), 0);
        Check.same("0, 1", t.order(BETWEEN, 0, 0, 1), 1);
        Check.same("least, greatest", t.order(BETWEEN, 0, LEAST, GREATEST), 2);
        Check.same("least, least", t.order(BETWEEN, 0, LEAST, LEAST), 3);
        Check.same("greatest, greatest", t.order(BETWEEN, 0, GREATEST, GREATEST), 4);
        Check.same("another kind", t.order(AROUND, 0, GREATEST, LEAST), 5);
    }

    private static void noOrderBeside24() {
        for (int kind = LOW; kind <= GRAPH; kind++) {
            PreferTable t = new PreferTable();
            for (int i = 0; i < 24; i++) {
                Check.same("order", t.order(kind, i % 4, i, i), i);
            }
            for (int another = LOW; another <= GRAPH; another++) {
                int k = another;
                Check.badState("order 25", () -> t.order(k, 0, 0, 0));
            }
            Check.outside("none has come", () -> t.reduce(24));
            int length = kind <= HIGH ? 2 : kind == BETWEEN ? 4 : 3;
            Check.same("node 23 is as it was", t.reduce(23), length);
        }
    }

    private static void firstAndLastLayers() {
        PreferTable t = tableWith(LAYERS);
        Check.yes("value 0, layer 0", t.layer(0, 0, 0));
        Check.yes("value 9, layer 5", t.layer(0, 9, 5));
        Check.yes("value 8, layer 4", t.layer(0, 8, 4));
        expect(t, 0, 9, BETTER);
        expect(t, 8, 9, BETTER);
        expect(t, 9, 1, BETTER);
        Check.yes("the same once more", t.layer(0, 9, 5));
        Check.yes("in place of another one", t.layer(0, 0, 5));
        expect(t, 0, 9, NEITHER);
        expect(t, 0, 8, WORSE);
    }

    private static void layerTakenAway() {
        PreferTable t = tableWith(LAYERS);
        Check.yes("of a value that has none", t.layer(0, 4, -1));
        expect(t, 4, 5, NEITHER);
        t.layer(0, 4, 0);
        expect(t, 4, 5, BETTER);
        Check.yes("of a value that has one", t.layer(0, 4, -1));
        expect(t, 4, 5, NEITHER);
        t.layer(0, 5, 5);
        expect(t, 4, 5, WORSE);
    }

    /** Node i is of kind i; all of them are refused but node 4. */
    private static PreferTable oneOfEachKind() {
        PreferTable t = Bounds.withRows(2);
        for (int kind = LOW; kind <= GRAPH; kind++) {
            t.order(kind, 1, 0, 0);
        }
        t.term(6, LAYERS, LAYERS);
        t.term(7, LAYERS, GRAPH);
        t.term(8, GRAPH, LAYERS);
        t.term(9, LAYERS, 0);
        t.term(9, GRAPH, 0);
        return t;
    }

    private static void layerOfNoSuchNode() {
        PreferTable t = oneOfEachKind();
        for (int node : Bounds.outside(10)) {
            Check.no("layer(" + node + ", 0, 0)", t.layer(node, 0, 0));
        }
        for (int node = 0; node <= 10; node++) {
            Check.same("layer(" + node + ", 0, 0)", Boolean.toString(t.layer(node, 0, 0)),
                Boolean.toString(node == LAYERS));
        }
        PreferTable none = new PreferTable();
        Check.no("with no nodes at all", none.layer(0, 0, 0));
    }

    private static void layerOfNoSuchValue() {
        PreferTable t = tableWith(LAYERS);
        for (int v : Bounds.outside(9)) {
            for (int layer = -1; layer <= 5; layer++) {
                Check.no("layer(0, " + v + ", " + layer + ")", t.layer(0, v, layer));
            }
            expect(t, v, 0, NEITHER);
        }
        Check.yes("value 0", t.layer(0, 0, 1));
        Check.yes("value 9", t.layer(0, 9, 1));
    }

    private static void noSuchLayer() {
        PreferTable t = tableWith(LAYERS);
        t.layer(0, 0, 3);
        t.layer(0, 9, 4);
        for (int layer : new int[] {LEAST, -33, -2, 6, 10, 31, 32, 37, 255, GREATEST}) {
            Check.no("layer(0, 0, " + layer + ")", t.layer(0, 0, layer));
            Check.no("layer(0, 9, " + layer + ")", t.layer(0, 9, layer));
            Check.no("layer(0, 5, " + layer + ")", t.layer(0, 5, layer));
            expect(t, 0, 9, BETTER);
            expect(t, 9, 5, BETTER);
        }
    }

    /** 45 edges: each value is better than every greater one. */
    private static void mostEdges() {
        PreferTable t = tableWith(GRAPH);
        for (int better = 0; better < 10; better++) {
            for (int worse = 9; worse > better; worse--) {
                Check.yes("edge(0, " + better + ", " + worse + ")", t.edge(0, better, worse));
            }
        }
        expect(t, 0, 9, BETTER);
        expect(t, 8, 9, BETTER);
        expect(t, 1, 0, WORSE);
        PreferTable back = tableWith(GRAPH);
        Check.yes("from the greatest to the least", back.edge(0, 9, 0));
        expect(back, 9, 0, BETTER);
    }

    private static void edgeThatIsThere() {
        PreferTable t = tableWith(GRAPH);
        t.order(GRAPH, 1, 0, 0);
        Check.yes("edge(0, 0, 9)", t.edge(0, 0, 9));
        Check.no("edge(0, 0, 9) again", t.edge(0, 0, 9));
        Check.no("and again", t.edge(0, 0, 9));
        Check.yes("edge(0, 0, 4)", t.edge(0, 0, 4));
        Check.yes("edge(0, 4, 9)", t.edge(0, 4, 9));
        Check.no("edge(0, 0, 9) beside a way", t.edge(0, 0, 9));
        Check.yes("edge(0, 4, 5)", t.edge(0, 4, 5));
        Check.yes("a way, but no edge yet", t.edge(0, 0, 5));
        Check.no("edge(0, 0, 5) again", t.edge(0, 0, 5));
        Check.yes("in another node it is not there", t.edge(1, 0, 9));
    }

    private static void edgeOfNoSuchNode() {
        PreferTable t = oneOfEachKind();
        for (int node : Bounds.outside(10)) {
            Check.badArgument("edge(" + node + ", 0, 1)", () -> t.edge(node, 0, 1));
        }
        for (int node = 0; node <= 10; node++) {
            int n = node;
            if (node != GRAPH) {
                Check.badArgument("edge(" + node + ", 0, 1)", () -> t.edge(n, 0, 1));
                Check.badArgument("edge(" + node + ", 1, 1)", () -> t.edge(n, 1, 1));
            }
        }
        Check.yes("edge(5, 0, 1)", t.edge(GRAPH, 0, 1));
        PreferTable none = new PreferTable();
        Check.badArgument("with no nodes at all", () -> none.edge(0, 0, 1));
    }

    private static void edgeOfNoSuchValue() {
        PreferTable t = tableWith(GRAPH);
        for (int v : Bounds.outside(9)) {
            Check.badArgument("edge(0, " + v + ", 1)", () -> t.edge(0, v, 1));
            Check.badArgument("edge(0, 1, " + v + ")", () -> t.edge(0, 1, v));
            Check.badArgument("edge(0, v, v), v = " + v, () -> t.edge(0, v, v));
            expect(t, v, 1, NEITHER);
        }
        for (int v = 0; v < 10; v++) {
            expect(t, v, (v + 1) % 10, NEITHER);
        }
    }

    private static void circles() {
        for (int v = 0; v < 10; v++) {
            int value = v;
            PreferTable t = tableWith(GRAPH);
            Check.badState("edge(0, " + v + ", " + v + ")", () -> t.edge(0, value, value));
            int next = (v + 1) % 10;
            t.edge(0, v, next);
            Check.badState("back along one edge", () -> t.edge(0, next, value));
            expect(t, v, next, BETTER);
        }
        PreferTable t = tableWith(GRAPH);
        t.order(GRAPH, 1, 0, 0);
        for (int v = 9; v > 0; v--) {
            t.edge(0, v, v - 1);
        }
        for (int v = 0; v < 9; v++) {
            int from = v;
            Check.badState("edge(0, " + v + ", 9)", () -> t.edge(0, from, 9));
        }
        expect(t, 9, 0, BETTER);
        Check.yes("edge(0, 9, 0) closes no circle", t.edge(0, 9, 0));
        Check.yes("edges of another node do not count", t.edge(1, 0, 9));
    }
}
