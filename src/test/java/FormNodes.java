import java.util.List;

/** Makes the node that a FORM tells of, in a table that has its LAYERS and GRAPHs already. */
final class FormNodes {
    private final PreferTable table;
    private final List<Integer> form;
    private int at = 0;
    private int count = 0;

    FormNodes(PreferTable table, List<Integer> form) {
        this.table = table;
        this.form = form;
    }

    /** The number of the node. */
    int make() {
        int node = next();
        Check.same("the FORM ends with its last node", at, form.size());
        return node;
    }

    /** How many nodes the FORM tells of, those that come twice twice. */
    int size() {
        return count;
    }

    private int next() {
        count++;
        int kind = form.get(at++);
        if (kind == 9) {
            return table.term(kind, next(), 0);
        }
        if (kind >= 6) {
            int p = next();
            return table.term(kind, p, next());
        }
        int column = form.get(at++);
        if (kind >= 4) {
            return form.get(at++);
        }
        int a = kind >= 2 ? form.get(at++) : 0;
        int b = kind == 3 ? form.get(at++) : 0;
        return table.order(kind, column, a, b);
    }
}
