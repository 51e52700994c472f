/** Tables to try calls on: with something of everything, with no room left, with no number left. */
final class Tables {
    private static final int LEAST = Bounds.LEAST;
    private static final int GREATEST = Bounds.GREATEST;

    private Tables() {
    }

    /** Rows 1 to 5, nodes 0 to 13 of all kinds (13 has the SIZE 39), questions 0 and 2. */
    static PreferTable some() {
        PreferTable t = new PreferTable();
        addOrders(t);
        t.term(6, 0, 4);
        t.term(7, 2, 5);
        t.term(8, 1, 3);
        t.term(9, 6, 0);
        t.term(9, 9, 0);
        t.term(6, 7, 10);
        t.term(8, 11, 11);
        t.term(6, 12, 12);
        for (int i = 0; i < 6; i++) {
            t.row(i % 3, i, 5 - i, i * 2 % 5);
        }
        t.remove(0);
        t.condition(0, 5, 0);
        t.save(0, 6);
        t.save(2, 5);
        t.change(4, 0, -1);
        t.row(LEAST, GREATEST, 3, 3);
        t.remove(6);
        t.best(7);
        t.reduce(11);
        return t;
    }

    /** Node i is an order of kind i; LAYERS and GRAPH are of columns 2 and 3. */
    private static void addOrders(PreferTable t) {
        t.order(0, 0, 0, 0);
        t.order(1, 1, 0, 0);
        t.order(2, 2, 3, 0);
        t.order(3, 3, 1, 2);
        t.order(4, 2, 0, 0);
        t.order(5, 3, 0, 0);
        t.layer(4, 0, 5);
        t.layer(4, 3, 0);
        t.layer(4, 9, 2);
        t.edge(5, 0, 1);
        t.edge(5, 1, 3);
        t.edge(5, 9, 4);
    }

    /** 24 rows, 24 nodes, 4 conditions and 4 questions; row 3 and two others do not pass. */
    static PreferTable full() {
        PreferTable t = new PreferTable();
        addOrders(t);
        for (int kind = 6; kind <= 9; kind++) {
            t.term(kind, 0, 4);
            t.term(kind, 5, 2);
        }
        for (int i = 14; i < 19; i++) {
            t.order(i % 4, i % 3, i, i);
        }
        int five = t.term(7, 6, 0);
        int eleven = t.term(6, five, five);
        int seventeen = t.term(8, eleven, t.term(6, 5, 9));
        t.term(6, seventeen, eleven);
        for (int i = 0; i < 24; i++) {
            t.row(i % 7, i % 5, i % 11, i % 4);
        }
        for (int operation = 2; operation < 6; operation++) {
            t.condition(operation - 2, operation, 5);
            t.save(operation - 2, operation);
        }
        t.free();
        for (int i = 0; i < 4; i++) {
            t.condition(i, 1, 10);
        }
        t.change(3, 2, 10);
        t.top(23, 9);
        t.reduce(23);
        return t;
    }

    /** 120 rows have been made, of which 117 to 119 are there; two nodes, nothing saved. */
    static PreferTable spent() {
        PreferTable t = Bounds.afterRows(120, 3);
        t.order(0, 1, 0, 0);
        t.term(9, 0, 0);
        t.top(0, 2);
        return t;
    }
}
