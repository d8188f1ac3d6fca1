/** What law(), waves() and rings() answer to cells that can not be taken: the sentences of their lines that are alike. */
final class CellEdges {
    private static final int MIN = Integer.MIN_VALUE, MAX = Integer.MAX_VALUE;

    /** A call that takes n cells of a sheet from i on as a row of a lane. */
    interface Taking {
        int by(SkipStones x, int sheet, int lane, int i, int n);
    }

    private final Edges e;
    private final int promise;
    private final String name;
    private final Taking taking;
    /** A number that, repeated, is no text, but stands in a row of waves and of rings. */
    private static final int GOOD = 5;

    CellEdges(Edges e, int promise, String name, Taking taking) {
        this.e = e;
        this.promise = promise;
        this.name = name;
        this.taking = taking;
    }

    void all(String cast, String size) {
        e.of(promise, "UNKNOWN;", this::unknown);
        e.of(promise, "OUTSIDE: lane;", this::lanes);
        e.of(promise, cast, this::cast);
        e.of(promise, "NULL;", this::nothing);
        e.of(promise, size, this::size);
        e.of(promise, "INDEX;", this::index);
    }

    private void is(SkipStones x, int sheet, int lane, int i, int n, int want, int fault) {
        String call = name + "(" + sheet + ", " + lane + ", " + i + ", " + n + ")";
        e.is(call, taking.by(x, sheet, lane, i, n), want);
        e.is("fault() behind " + call, x.fault(), fault);
    }

    /** Sheets 0 to 2 have three cells of the lane of that number, sheet 3 has nothing. */
    private static SkipStones withRows() {
        SkipStones x = new SkipStones();
        for (int lane = 0; lane < 3; lane++) {
            Due.write(x, lane, lane, GOOD, GOOD, GOOD);
        }
        return x;
    }

    private void unknown() {
        for (int sheet : new int[] {-1, 4, MIN, MAX}) {
            SkipStones x = withRows();
            is(x, sheet, 0, 0, 3, -1, 0);
            x.put(3, 0, 0);
            is(x, sheet, 3, -1, -1, -1, 0);
        }
    }

    private void lanes() {
        for (int lane : new int[] {-1, 3, MIN, MAX}) {
            SkipStones x = withRows();
            is(x, 0, lane, 0, 3, -2, 0);
            x.put(3, 0, 0);
            is(x, 3, lane, -1, -1, -2, 0);
        }
    }

    private void cast() {
        for (int own = 0; own < 3; own++) {
            for (int lane = 0; lane < 3; lane++) {
                if (lane != own) {
                    SkipStones x = withRows();
                    is(x, own, lane, 0, 3, -12, 2);
                    is(x, own, lane, 0, 0, -12, 2);
                    is(x, own, lane, -1, -1, -12, 2);
                    x.sheet(own, own, 0);
                    is(x, own, lane, 0, 0, -12, 2);
                    x.lose(own);
                    is(x, own, lane, 0, 3, -11, 1);
                }
            }
        }
    }

    private void nothing() {
        for (int lane = 0; lane < 3; lane++) {
            SkipStones x = withRows();
            is(x, 3, lane, 0, 1, -11, 1);
            is(x, 3, lane, 0, 0, -11, 1);
            is(x, 3, lane, 0, -1, -11, 1);
            is(x, 3, lane, -1, 1, -11, 1);
            x.lose(lane);
            is(x, lane, lane, 0, 3, -11, 1);
        }
    }

    private void size() {
        for (int lane = 0; lane < 3; lane++) {
            SkipStones x = withRows();
            is(x, lane, lane, 0, -1, -14, 4);
            is(x, lane, lane, 3, -1, -14, 4);
            is(x, lane, lane, 0, MIN, -14, 4);
            is(x, lane, lane, -1, -1, -14, 4);
            is(x, lane, lane, 4, -1, -14, 4);
            is(x, lane, lane, MAX, MIN, -14, 4);
        }
    }

    private void index() {
        int[][] beyond = {{-1, 1}, {-1, 4}, {3, 1}, {2, 2}, {0, 4}, {0, 61}, {MIN, 1}, {MAX, 1}, {MAX, MAX}, {1, MAX},
            {3, MAX}, {MIN, MAX},
            // Where none is taken, too, if i is not 0 .. how many there are.
            {-1, 0}, {4, 0}, {MIN, 0}, {MAX, 0}};
        for (int lane = 0; lane < 3; lane++) {
            SkipStones x = withRows();
            for (int[] cells : beyond) {
                is(x, lane, lane, cells[0], cells[1], -13, 3);
            }
            e.is(name + " of none at the end is no INDEX", indexed(x, lane, 3, 0), 0);
            e.is(name + " of all is no INDEX", indexed(x, lane, 0, 3), 0);
            e.is(name + " of the last is no INDEX", indexed(x, lane, 2, 1), 0);
            x.sheet(lane, lane, 0);
            e.is(name + " of none of none is no INDEX", indexed(x, lane, 0, 0), 0);
            is(x, lane, lane, 1, 0, -13, 3);
            is(x, lane, lane, 0, 1, -13, 3);
            x.sheet(lane, lane, 60);
            e.is(name + " of sixty is no INDEX", indexed(x, lane, 0, 60), 0);
            is(x, lane, lane, 0, 61, -13, 3);
            is(x, lane, lane, 60, 1, -13, 3);
        }
    }

    private int indexed(SkipStones x, int lane, int i, int n) {
        return taking.by(x, lane, lane, i, n) == -13 || x.fault() != 0 ? 1 : 0;
    }
}
