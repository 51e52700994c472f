/** Ints at the ends of what an int can be, and just outside of what a call takes. */
final class Bounds {
    static final int LEAST = Integer.MIN_VALUE;
    static final int GREATEST = Integer.MAX_VALUE;

    private Bounds() {
    }

    /**
     * Ints outside 0 .. last: the nearest, the farthest, and some that a shift by an int, or a
     * narrower type, would take for one inside.
     */
    static int[] outside(int last) {
        return new int[] {
            LEAST, -65536, -256, -32, -1, last + 1, last + 32, last + 256, last + 65536, GREATEST,
        };
    }

    /** A table whose row i has the value values[i] in a column, and i elsewhere. */
    static PreferTable tableOf(int column, int... values) {
        PreferTable t = new PreferTable();
        for (int i = 0; i < values.length; i++) {
            t.row(i, i, i, i);
            t.change(i, column, values[i]);
        }
        return t;
    }

    /** A table with so many rows, of which row i has i everywhere. */
    static PreferTable withRows(int count) {
        PreferTable t = new PreferTable();
        for (int i = 0; i < count; i++) {
            t.row(i, i, i, i);
        }
        return t;
    }

    /** A table in which so many rows have been made and the last ones are there. */
    static PreferTable afterRows(int made, int there) {
        PreferTable t = new PreferTable();
        for (int i = 0; i < made; i++) {
            t.remove(i - Math.max(1, there));
            t.row(i, i, i, i);
        }
        if (there == 0) {
            t.remove(made - 1);
        }
        return t;
    }
}
