import java.math.BigInteger;

/** The edges of sheets, faults, telling and the trace: promises 24 to 34 and their terms. */
final class SheetEdges {
    private static final int MIN = Integer.MIN_VALUE, MAX = Integer.MAX_VALUE;
    private static final long LOST = Long.MIN_VALUE;
    private static final int TERMS = Edges.TERMS;

    private final Edges e;

    SheetEdges(Edges e) {
        this.e = e;
    }

    void all() {
        sheetTerms();
        tellTerms();
        sheets();
        loses();
        puts();
        cells();
        copies();
        copiesRefused();
        tells();
        kinds();
        faults();
        howMany();
    }

    private void cell(SkipStones x, int k, int i, int lane, long want) {
        e.is("cell(" + k + ", " + i + ", " + lane + ")", x.cell(k, i, lane), want);
    }

    private void row(SkipStones x, int k, int lane, long... want) {
        for (int i = 0; i < want.length; i++) {
            cell(x, k, i, lane, want[i]);
        }
        cell(x, k, want.length, lane, LOST);
    }

    private void fault(SkipStones x, int want) {
        e.is("fault()", x.fault(), want);
    }

    // ---- terms

    private void sheetTerms() {
        e.of(TERMS, "5 SHEETS 0 .. 3 have nothing (at first),", () -> {
            SkipStones x = new SkipStones();
            for (int k = 0; k < 4; k++) {
                e.is("lose(" + k + ")", x.lose(k), 0);
                cell(x, k, 0, 0, LOST);
                fault(x, 1);
                e.is("sheet(" + k + ", 0, 1)", x.sheet(k, 0, 1), 1);
                cell(x, k, 0, 0, 0);
            }
            e.is("sheet(-1, 0, 1)", x.sheet(-1, 0, 1), -1);
            e.is("sheet(4, 0, 1)", x.sheet(4, 0, 1), -1);
        });
        e.of(TERMS, "or a row of 0 .. 60 numbers (0 at first)", () -> {
            for (int lane = 0; lane < 3; lane++) {
                SkipStones x = new SkipStones();
                e.is("sheet of -1", x.sheet(0, lane, -1), -14);
                e.is("sheet of 61", x.sheet(0, lane, 61), -2);
                e.is("sheet of 0", x.sheet(0, lane, 0), 1);
                cell(x, 0, 0, lane, LOST);
                fault(x, 3);
                e.is("it is something", x.lose(0), 1);
                e.is("sheet of 60", x.sheet(0, lane, 60), 1);
                for (int i = 0; i < 60; i++) {
                    cell(x, 0, i, lane, 0);
                    x.put(0, i, i + 1);
                }
                cell(x, 0, 60, lane, LOST);
                cell(x, 0, 59, lane, 60);
                e.is("sheet of 60 again", x.sheet(0, lane, 60), 1);
                for (int i = 0; i < 60; i++) {
                    cell(x, 0, i, lane, 0);
                }
            }
        });
        e.of(TERMS, "of a LANE: 0 bytes, 1 shorts, 2 ints;", () -> {
            SkipStones x = new SkipStones();
            for (int lane : new int[] {-1, 3, MIN, MAX}) {
                e.is("sheet(0, " + lane + ", 1)", x.sheet(0, lane, 1), -2);
            }
            int[][] greatest = {{127, -128}, {32767, -32768}, {MAX, MIN}};
            for (int lane = 0; lane < 3; lane++) {
                Due.write(x, lane, lane, greatest[lane]);
                row(x, lane, lane, greatest[lane][0], greatest[lane][1]);
            }
        });
        e.of(TERMS, "what comes to a cell of it is cut to its LANE (with its sign).", () -> {
            int[] numbers = {128, 255, 256, -129, 384, 32768, 65535, 65536, -32769, 98304, MAX, MIN, -1};
            long[][] want = {
                {-128, -1, 0, 127, -128, 0, -1, 0, -1, 0, -1, 0, -1},
                {128, 255, 256, -129, 384, -32768, -1, 0, 32767, -32768, -1, 0, -1},
                {128, 255, 256, -129, 384, 32768, 65535, 65536, -32769, 98304, MAX, MIN, -1}};
            for (int lane = 0; lane < 3; lane++) {
                SkipStones x = new SkipStones();
                Due.write(x, 0, lane, numbers);
                row(x, 0, lane, want[lane]);
            }
        });
    }

    /** Touches 0 to 5 are clean, 6 to 8 skate (6 at 507), 9 sinks at 530. */
    private static SkipStones thrown() {
        SkipStones x = new SkipStones();
        x.stone(5, 40, 3);
        x.toss(0, 200, 30, 10, 50);
        return x;
    }

    /** Touches 0 and 1 (at 94) are steep, 2 sinks at 138. */
    private static SkipStones steep() {
        SkipStones x = new SkipStones();
        x.stone(1, 20, 0);
        x.toss(0, 100, 40, 21, 99);
        return x;
    }

    private void told(SkipStones x, int k, int want, int... bodies) {
        int trace = x.trace();
        e.is("tell(" + k + ")", x.tell(k), want);
        for (int body : bodies) {
            trace = 31 * trace + body;
        }
        e.is("trace()", x.trace(), trace);
    }

    private void tellTerms() {
        e.of(TERMS, "TELLING of TOUCHES (of the throw kept last) by bodies that leave their number in TRACE", () -> {
            SkipStones x = thrown();
            told(x, 9, 530, 1);
            x.toss(0, 200, 30, 0, 50);
            told(x, 0, 0, 1);
            told(x, 9, -1);
            x.toss(0, 0, 30, 10, 50);
            told(x, 0, 0, 1);
        });
        e.of(TERMS, "(an int that wraps, 0 at first, becomes 31 times it and the number) as they begin:", () -> {
            SkipStones x = thrown();
            e.is("trace()", x.trace(), 0);
            BigInteger trace = BigInteger.ZERO;
            for (int t = 0; t < 100; t++) {
                x.hear(t % 2 == 0 ? 0 : 6);
                trace = trace.multiply(BigInteger.valueOf(31)).add(BigInteger.valueOf(t % 2 == 0 ? 4 : 5));
                e.is("trace()", x.trace(), trace.intValue());
            }
            x = thrown();
            x.tell(6);
            e.is("3, 2, 1, 1", x.trace(), 3 * 29791 + 2 * 961 + 31 + 1);
        });
        e.of(TERMS, "SUNK (1): its X.", () -> {
            told(thrown(), 9, 530, 1);
            told(steep(), 2, 138, 1);
        });
        e.of(TERMS, "CLEAN (2): what SUNK's gives, and 1000.", () -> {
            told(thrown(), 0, 1000, 2, 1);
            told(thrown(), 1, 1195, 2, 1);
        });
        e.of(TERMS, "SKATING (3): what CLEAN's gives, and what SUNK's gives (CLEAN's left out).",
            () -> told(thrown(), 6, 507 + 1000 + 507, 3, 2, 1, 1));
        e.of(TERMS, "STEEP (6): what CLEAN's gives, and 5000.", () -> {
            told(steep(), 0, 6000, 6, 2, 1);
            told(steep(), 1, 94 + 1000 + 5000, 6, 2, 1);
        });
        e.of(TERMS, "HEARD by a lent body (4): the TOUCH's number; SKATING ones have their own (5): 60.", () -> {
            SkipStones x = thrown();
            int trace = 0;
            for (int k = 0; k < 10; k++) {
                boolean skates = k >= 6 && k <= 8;
                e.is("hear(" + k + ")", x.hear(k), skates ? 60 : k);
                trace = 31 * trace + (skates ? 5 : 4);
                e.is("trace()", x.trace(), trace);
            }
            x = steep();
            e.is("hear(1), steep", x.hear(1), 1);
            e.is("trace()", x.trace(), 4);
        });
    }

    // ---- promises

    private void sheets() {
        e.of(24, "A SHEET gets a new row: 1.", () -> {
            SkipStones x = new SkipStones();
            e.is("sheet(3, 1, 2)", x.sheet(3, 1, 2), 1);
            x.put(3, 1, 7);
            row(x, 3, 1, 0, 7);
            e.is("alike", x.sheet(3, 1, 2), 1);
            row(x, 3, 1, 0, 0);
            e.is("of another lane", x.sheet(3, 2, 1), 1);
            row(x, 3, 2, 0);
            cell(x, 3, 0, 1, LOST);
            e.is("of none", x.sheet(3, 2, 0), 1);
            row(x, 3, 2);
            e.is("the others have nothing", x.lose(0) + x.lose(1) + x.lose(2), 0);
        });
        e.of(24, "UNKNOWN;", () -> {
            SkipStones x = new SkipStones();
            for (int k : new int[] {-1, 4, MIN, MAX}) {
                e.is("sheet(" + k + ", 0, 1)", x.sheet(k, 0, 1), -1);
                e.is("sheet(" + k + ", 3, -1): the first of all", x.sheet(k, 3, -1), -1);
                fault(x, 0);
            }
        });
        e.of(24, "OUTSIDE: lane, n above 60;", () -> {
            SkipStones x = new SkipStones();
            Due.write(x, 0, 1, 9);
            int[][] outside = {{-1, 1}, {3, 1}, {MIN, 1}, {MAX, 1}, {0, 61}, {1, MAX}, {2, 62}, {3, -1}, {-1, 61}};
            for (int[] s : outside) {
                x.sheet(0, 0, -1);
                e.is("sheet(0, " + s[0] + ", " + s[1] + ")", x.sheet(0, s[0], s[1]), -2);
                fault(x, 0);
            }
            row(x, 0, 1, 9);
            e.is("sheet(0, 1, 60)", x.sheet(0, 1, 60), 1);
        });
        e.of(24, "SIZE.", () -> {
            SkipStones x = new SkipStones();
            Due.write(x, 0, 1, 9);
            for (int n : new int[] {-1, MIN}) {
                e.is("sheet(0, 2, " + n + ")", x.sheet(0, 2, n), -14);
                fault(x, 4);
                e.is("sheet(1, 0, " + n + ")", x.sheet(1, 0, n), -14);
            }
            row(x, 0, 1, 9);
            e.is("it has nothing still", x.lose(1), 0);
        });
    }

    private void loses() {
        e.of(25, "A SHEET has nothing: 1; 0: it had nothing.", () -> {
            SkipStones x = new SkipStones();
            e.is("lose(2)", x.lose(2), 0);
            x.sheet(2, 0, 0);
            e.is("lose(2) of a row of none", x.lose(2), 1);
            e.is("lose(2) again", x.lose(2), 0);
            Due.write(x, 2, 0, 5);
            x.sheet(1, 0, 1);
            e.is("lose(2)", x.lose(2), 1);
            e.is("put(2, 0, 0)", x.put(2, 0, 0), -11);
            x.sheet(2, 0, 1);
            cell(x, 2, 0, 0, 0);
            e.is("another one stays", x.lose(1), 1);
        });
        e.of(25, "UNKNOWN.", () -> {
            for (int k : new int[] {-1, 4, MIN, MAX}) {
                e.is("lose(" + k + ")", new SkipStones().lose(k), -1);
            }
        });
    }

    private void puts() {
        e.of(26, "Cell i of a SHEET becomes v: 1.", () -> {
            SkipStones x = new SkipStones();
            x.sheet(0, 2, 3);
            e.is("put(0, 0, MIN)", x.put(0, 0, MIN), 1);
            e.is("put(0, 2, MAX)", x.put(0, 2, MAX), 1);
            e.is("put(0, 2, MAX) again", x.put(0, 2, MAX), 1);
            fault(x, 0);
            row(x, 0, 2, MIN, 0, MAX);
        });
        e.of(26, "UNKNOWN;", () -> {
            SkipStones x = new SkipStones();
            for (int k : new int[] {-1, 4, MIN, MAX}) {
                x.put(0, 0, 0);
                e.is("put(" + k + ", 0, 0)", x.put(k, 0, 0), -1);
                fault(x, 0);
                e.is("put(" + k + ", -1, 0): the first of all", x.put(k, -1, 0), -1);
            }
        });
        e.of(26, "NULL;", () -> {
            SkipStones x = new SkipStones();
            for (int i : new int[] {0, -1, 60, MAX}) {
                e.is("put(3, " + i + ", 0)", x.put(3, i, 0), -11);
                fault(x, 1);
            }
            x.sheet(3, 0, 1);
            x.lose(3);
            e.is("put(3, 0, 0) of what was lost", x.put(3, 0, 0), -11);
        });
        e.of(26, "INDEX.", () -> {
            SkipStones x = new SkipStones();
            Due.write(x, 0, 0, 7, 8);
            for (int i : new int[] {-1, 2, 59, 60, MIN, MAX}) {
                e.is("put(0, " + i + ", 1)", x.put(0, i, 1), -13);
                fault(x, 3);
            }
            row(x, 0, 0, 7, 8);
            x.sheet(0, 0, 0);
            e.is("put(0, 0, 1) of none", x.put(0, 0, 1), -13);
            x.sheet(0, 0, 60);
            e.is("put(0, 59, 1) of sixty", x.put(0, 59, 1), 1);
            e.is("put(0, 60, 1) of sixty", x.put(0, 60, 1), -13);
            Due.write(x, 1, 0, 1, 2, 3);
            x.sheet(1, 0, 2);
            e.is("put(1, 2, 1) of a row that was longer", x.put(1, 2, 1), -13);
        });
    }

    private void cells() {
        e.of(27, "Cell i of what a SHEET has, taken as a row of a LANE.", () -> {
            SkipStones x = new SkipStones();
            for (int lane = 0; lane < 3; lane++) {
                Due.write(x, lane, lane, 5, -6, 7);
                row(x, lane, lane, 5, -6, 7);
            }
        });
        e.of(27, "LOST: UNKNOWN, OUTSIDE: lane;", () -> {
            SkipStones x = new SkipStones();
            Due.write(x, 0, 0, 5);
            for (int k : new int[] {-1, 4, MIN, MAX}) {
                x.put(1, 0, 0);
                cell(x, k, 0, 0, LOST);
                fault(x, 0);
            }
            for (int lane : new int[] {-1, 3, MIN, MAX}) {
                x.put(1, 0, 0);
                cell(x, 0, 0, lane, LOST);
                fault(x, 0);
                x.put(1, 0, 0);
                cell(x, 1, 9, lane, LOST);
                fault(x, 0);
            }
        });
        e.of(27, "FAULTS CAST (nothing is no CAST),", () -> {
            SkipStones x = new SkipStones();
            for (int own = 0; own < 3; own++) {
                for (int lane = 0; lane < 3; lane++) {
                    Due.write(x, own, own, 5);
                    cell(x, own, 0, lane, own == lane ? 5 : LOST);
                    fault(x, own == lane ? 0 : 2);
                    cell(x, own, 1, lane, LOST);
                    fault(x, own == lane ? 3 : 2);
                    x.lose(own);
                    cell(x, own, 0, lane, LOST);
                    fault(x, 1);
                }
            }
        });
        e.of(27, "NULL,", () -> {
            SkipStones x = new SkipStones();
            for (int i : new int[] {0, -1, 60}) {
                x.sheet(0, 0, -1);
                cell(x, 0, i, 0, LOST);
                fault(x, 1);
            }
        });
        e.of(27, "INDEX.", () -> {
            SkipStones x = new SkipStones();
            Due.write(x, 0, 0, 7, 8);
            for (int i : new int[] {-1, 2, 60, MIN, MAX}) {
                x.sheet(1, 0, -1);
                cell(x, 0, i, 0, LOST);
                fault(x, 3);
            }
            cell(x, 0, 1, 0, 8);
            fault(x, 0);
            x.sheet(0, 0, 60);
            cell(x, 0, 59, 0, 0);
            fault(x, 0);
            cell(x, 0, 60, 0, LOST);
            fault(x, 3);
        });
    }

    private void copy(SkipStones x, int k, int i, int other, int j, int n, int want, int fault) {
        e.is("copy(" + k + ", " + i + ", " + other + ", " + j + ", " + n + ")", x.copy(k, i, other, j, n), want);
        fault(x, fault);
    }

    private void copies() {
        e.of(28, "n cells of a SHEET from i on go to another one (perhaps the same) from j on, as they were: n.", () -> {
            SkipStones x = new SkipStones();
            Due.write(x, 0, 1, 1, 2, 3, 4, 5);
            Due.write(x, 1, 1, 6, 7, 8);
            copy(x, 0, 1, 1, 0, 2, 2, 0);
            row(x, 1, 1, 2, 3, 8);
            row(x, 0, 1, 1, 2, 3, 4, 5);
            copy(x, 0, 4, 1, 2, 1, 1, 0);
            row(x, 1, 1, 2, 3, 5);
            copy(x, 0, 0, 0, 1, 4, 4, 0);
            row(x, 0, 1, 1, 1, 2, 3, 4);
            copy(x, 0, 1, 0, 0, 4, 4, 0);
            row(x, 0, 1, 1, 2, 3, 4, 4);
            copy(x, 0, 0, 0, 0, 5, 5, 0);
            copy(x, 0, 5, 0, 5, 0, 0, 0);
            copy(x, 0, 0, 1, 3, 0, 0, 0);
            row(x, 0, 1, 1, 2, 3, 4, 4);
            row(x, 1, 1, 2, 3, 5);
            x.sheet(2, 1, 0);
            copy(x, 2, 0, 2, 0, 0, 0, 0);
            copy(x, 0, 0, 2, 0, 0, 0, 0);
            x.sheet(2, 2, 60);
            x.sheet(3, 2, 60);
            x.put(2, 59, MIN);
            copy(x, 2, 0, 3, 0, 60, 60, 0);
            cell(x, 3, 59, 2, MIN);
        });
    }

    private void copiesRefused() {
        e.of(28, "UNKNOWN;", () -> {
            SkipStones x = new SkipStones();
            x.sheet(0, 0, 3);
            for (int k : new int[] {-1, 4, MIN, MAX}) {
                x.put(3, 0, 0);
                copy(x, k, 0, 0, 0, 1, -1, 0);
                copy(x, 0, 0, k, 0, 1, -1, 0);
                copy(x, k, -1, 1, -1, -1, -1, 0);
                copy(x, 1, -1, k, -1, -1, -1, 0);
            }
        });
        e.of(28, "FAULTS NULL (the first, the other),", () -> {
            SkipStones x = new SkipStones();
            x.sheet(0, 0, 3);
            copy(x, 1, 0, 0, 0, 1, -11, 1);
            copy(x, 0, 0, 1, 0, 1, -11, 1);
            copy(x, 1, 0, 2, 0, 0, -11, 1);
            copy(x, 1, 0, 1, 0, 0, -11, 1);
            copy(x, 1, -1, 0, -1, -1, -11, 1);
            copy(x, 0, -1, 1, -1, -1, -11, 1);
            // What it had when it was lost is no lane.
            x.sheet(2, 1, 3);
            x.lose(2);
            copy(x, 0, 0, 2, 0, 1, -11, 1);
            copy(x, 2, 0, 0, 0, 1, -11, 1);
        });
        e.of(28, "CAST (unlike LANES),", () -> {
            for (int lane = 0; lane < 3; lane++) {
                for (int other = 0; other < 3; other++) {
                    SkipStones x = new SkipStones();
                    x.sheet(0, lane, 3);
                    x.sheet(1, other, 3);
                    boolean alike = lane == other;
                    copy(x, 0, 0, 1, 0, 1, alike ? 1 : -12, alike ? 0 : 2);
                    copy(x, 0, 0, 1, 0, 0, alike ? 0 : -12, alike ? 0 : 2);
                    copy(x, 0, -1, 1, -1, -1, alike ? -13 : -12, alike ? 3 : 2);
                }
            }
        });
        e.of(28, "INDEX: i, j, n below 0 or beyond.", () -> {
            SkipStones x = new SkipStones();
            Due.write(x, 0, 0, 1, 2, 3);
            Due.write(x, 1, 0, 4, 5);
            int[][] beyond = {{-1, 0, 1}, {0, -1, 1}, {0, 0, -1}, {-1, 0, 0}, {0, -1, 0}, {3, 0, 1}, {2, 0, 2}, {4, 0, 0},
                {0, 2, 1}, {0, 1, 2}, {0, 3, 0}, {0, 0, 3}, {0, 0, 4}, {MIN, 0, 1}, {0, MIN, 1}, {0, 0, MIN}, {MAX, 0, 1},
                {0, MAX, 1}, {0, 0, MAX}, {MAX, MAX, MAX}, {1, 0, MAX}, {0, 1, MAX}, {MIN, MIN, MIN}, {MAX, 0, 0},
                {0, MAX, 0}};
            for (int[] c : beyond) {
                copy(x, 0, c[0], 1, c[1], c[2], -13, 3);
            }
            row(x, 0, 0, 1, 2, 3);
            row(x, 1, 0, 4, 5);
            copy(x, 0, 1, 1, 0, 2, 2, 0);
            copy(x, 0, 3, 1, 2, 0, 0, 0);
        });
    }

    private void unknownTouches(String name, TellCall call) {
        e.is(name + "(0): none is kept", call.of(new SkipStones(), 0), -1);
        for (int k : new int[] {-1, 3, 89, 90, MIN, MAX}) {
            SkipStones x = steep();
            e.is(name + "(" + k + ")", call.of(x, k), -1);
            e.is("trace()", x.trace(), 0);
        }
        e.is(name + "(2)", call.of(steep(), 2) >= 0 ? 1 : 0, 1);
    }

    private interface TellCall {
        int of(SkipStones x, int k);
    }

    private void tells() {
        e.of(29, "TELLING of a TOUCH.", () -> {
            SkipStones x = thrown();
            told(x, 0, 1000, 2, 1);
            told(x, 6, 2014, 3, 2, 1, 1);
            told(x, 9, 530, 1);
            told(steep(), 1, 6094, 6, 2, 1);
        });
        e.of(29, "UNKNOWN.", () -> unknownTouches("tell", SkipStones::tell));
        e.of(30, "How it is HEARD.", () -> {
            SkipStones x = thrown();
            e.is("hear(5)", x.hear(5), 5);
            e.is("hear(6)", x.hear(6), 60);
            e.is("hear(9)", x.hear(9), 9);
            e.is("trace()", x.trace(), (4 * 31 + 5) * 31 + 4);
        });
        e.of(30, "UNKNOWN.", () -> unknownTouches("hear", SkipStones::hear));
        e.of(32, "TRACE.", () -> {
            SkipStones x = thrown();
            e.is("trace()", x.trace(), 0);
            x.hear(0);
            e.is("trace()", x.trace(), 4);
            e.is("trace() again", x.trace(), 4);
            x.toss(0, 200, 30, 0, 50);
            e.is("trace() with another throw", x.trace(), 4);
            x.as(0, 0);
            x.as(0, 1);
            x.tell(1);
            x.hear(1);
            e.is("no body begins", x.trace(), 4);
        });
    }

    private void as(SkipStones x, int k, int kind, int want, int fault) {
        e.is("as(" + k + ", " + kind + ")", x.as(k, kind), want);
        fault(x, fault);
    }

    private void kinds() {
        e.of(31, "A TOUCH, taken as one of a kind: 1.", () -> {
            for (int kind = 0; kind < 4; kind++) {
                as(kind == 3 ? steep() : thrown(), kind == 0 ? 9 : kind == 2 ? 6 : 0, kind, 1, 0);
            }
            as(thrown(), 6, 1, 1, 0);
            as(steep(), 0, 1, 1, 0);
        });
        e.of(31, "UNKNOWN;", () -> {
            unknownTouches("as", (x, k) -> x.as(k, 0));
            unknownTouches("as", (x, k) -> x.as(k, k == 2 ? 0 : 9));
            SkipStones x = steep();
            x.put(0, 0, 0);
            as(x, 3, 0, -1, 0);
        });
        e.of(31, "OUTSIDE: kind 0 .. 3 (0: a TOUCH);", () -> {
            SkipStones x = steep();
            for (int kind : new int[] {-1, 4, MIN, MAX}) {
                x.put(0, 0, 0);
                as(x, 0, kind, -2, 0);
                as(x, 2, kind, -2, 0);
            }
            for (int k = 0; k < 3; k++) {
                as(x, k, 0, 1, 0);
            }
            as(x, 0, 3, 1, 0);
        });
        e.of(31, "CAST: it is none.", () -> {
            for (int kind = 1; kind < 4; kind++) {
                as(thrown(), 9, kind, -12, 2);
            }
            as(thrown(), 0, 2, -12, 2);
            as(thrown(), 0, 3, -12, 2);
            as(thrown(), 6, 3, -12, 2);
            as(steep(), 0, 2, -12, 2);
            SkipStones x = steep();
            as(x, 0, 2, -12, 2);
            e.is("trace()", x.trace(), 0);
        });
    }

    private void faults() {
        e.of(33, "The FAULT of the latest call that names one:", () -> {
            SkipStones x = thrown();
            x.put(0, 0, 0);
            fault(x, 1);
            fault(x, 1);
            x.as(0, 2);
            fault(x, 2);
            x.sheet(0, 0, -1);
            fault(x, 4);
            x.sheet(0, 0, 1);
            fault(x, 0);
            x.cell(0, 1, 0);
            fault(x, 3);
            // These name none, so what was stays.
            x.lose(1);
            x.lose(4);
            x.tell(0);
            x.tell(99);
            x.hear(0);
            x.trace();
            x.many(0);
            x.toss(0, 1, 1, 1, 1);
            x.judge(0);
            x.mean(0, 0);
            fault(x, 3);
        });
        e.of(33, "0: it came to none, or was refused", () -> {
            SkipStones x = thrown();
            CellEdges.Taking[] takings = {SkipStones::law, SkipStones::waves, SkipStones::rings};
            for (CellEdges.Taking taking : takings) {
                x.put(0, 0, 0);
                e.is("unknown", taking.by(x, 4, 0, 0, 1), -1);
                fault(x, 0);
                x.put(0, 0, 0);
                e.is("outside", taking.by(x, 0, 3, 0, 1), -2);
                fault(x, 0);
                x.put(0, 0, 0);
            }
            Due.write(x, 1, 0, 's', '5');
            x.put(0, 0, 0);
            e.is("law with a fault of its text", x.law(1, 0, 0, 1), -101);
            fault(x, 0);
            x.put(0, 0, 0);
            e.is("law", x.law(1, 0, 0, 2), 1);
            fault(x, 0);
            x.put(0, 0, 0);
            e.is("waves of 53", x.waves(1, 0, 1, 1), -2);
            fault(x, 0);
            x.put(0, 0, 0);
            e.is("rings of none", x.rings(1, 0, 1, 0), -2);
            fault(x, 0);
            x.put(0, 0, 0);
            e.is("sheet of 61", x.sheet(0, 0, 61), -2);
            fault(x, 0);
            x.put(0, 0, 0);
            e.is("cell of sheet 4", x.cell(4, 0, 0), LOST);
            fault(x, 0);
            x.put(0, 0, 0);
            e.is("copy to sheet 4", x.copy(1, 0, 4, 0, 1), -1);
            fault(x, 0);
            x.put(0, 0, 0);
            e.is("as of kind 4", x.as(0, 4), -2);
            fault(x, 0);
        });
        e.of(33, "(0 ahead of any).", () -> {
            SkipStones x = new SkipStones();
            fault(x, 0);
            x.stone(0, 0, 0);
            x.lose(4);
            fault(x, 0);
        });
    }

    private void howMany() {
        e.of(34, "How many: 0 STONES, 1 TOUCHES kept, 2 WAVES, 3 RINGS.", () -> {
            SkipStones x = new SkipStones();
            int[] atFirst = {0, 0, 1, 0};
            for (int what = 0; what < 4; what++) {
                e.is("many(" + what + ")", x.many(what), atFirst[what]);
            }
            for (int s = 0; s < 9; s++) {
                x.stone(1, 99, 0);
            }
            Due.law(x, "r0;s0;l1");
            x.toss(0, 300, 99, 1, 99);
            int[] twenty = new int[20];
            java.util.Arrays.fill(twenty, 1);
            Due.waves(x, twenty);
            Due.rings(x, twenty);
            int[] most = {8, 90, 20, 20};
            for (int what = 0; what < 4; what++) {
                e.is("many(" + what + ")", x.many(what), most[what]);
            }
        });
        e.of(34, "OUTSIDE.", () -> {
            for (int what : new int[] {-1, 4, MIN, MAX}) {
                e.is("many(" + what + ")", new SkipStones().many(what), -2);
            }
        });
    }
}
