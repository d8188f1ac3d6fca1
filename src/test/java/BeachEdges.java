/** The edges of beaches: promises 21 to 23 and their terms. */
final class BeachEdges {
    private static final int MIN = Integer.MIN_VALUE, MAX = Integer.MAX_VALUE;
    private static final long LOST = Long.MIN_VALUE;
    private static final int TERMS = Edges.TERMS;

    private final Edges e;

    BeachEdges(Edges e) {
        this.e = e;
    }

    void all() {
        terms();
        beaches();
        means();
        hours();
    }

    /** Stones of which so many lie there, worth so much: many, worth, many, worth .. */
    private static SkipStones with(int... manyAndWorth) {
        SkipStones x = new SkipStones();
        for (int s = 0; s < manyAndWorth.length / 2; s++) {
            x.stone(1, 1, 1);
            x.beach(s, manyAndWorth[2 * s], manyAndWorth[2 * s + 1]);
        }
        return x;
    }

    private void mean(SkipStones x, int n, long upper, long lower) {
        e.is("mean(" + n + ", 0)", x.mean(n, 0), upper);
        e.is("mean(" + n + ", 1)", x.mean(n, 1), lower);
    }

    private void hours(SkipStones x, int cost, int want) {
        e.is("hours(" + cost + ")", x.hours(cost), want);
    }

    private static long power(long base, int n) {
        return n == 0 ? 1 : base * power(base, n - 1);
    }

    private void terms() {
        e.of(TERMS, "4 A BEACH: of some STONES (worth 0 .. 99 each, told) so many (weights 0 .. 9; 0, worth 0 at first).",
            () -> {
                SkipStones x = new SkipStones();
                x.stone(1, 1, 1);
                e.is("none at first", x.ofStone(0, 3), 0);
                e.is("worth 0 at first", x.ofStone(0, 4), 0);
                int[][] outside = {{-1, 0}, {10, 0}, {0, -1}, {0, 100}};
                for (int[] b : outside) {
                    e.is("beach(0, " + b[0] + ", " + b[1] + ")", x.beach(0, b[0], b[1]), -2);
                }
                int[][] inside = {{9, 0}, {0, 99}, {9, 99}, {0, 0}};
                for (int[] b : inside) {
                    e.is("beach(0, " + b[0] + ", " + b[1] + ")", x.beach(0, b[0], b[1]), 1);
                    e.is("so many", x.ofStone(0, 3), b[0]);
                    e.is("so much", x.ofStone(0, 4), b[1]);
                }
            });
        e.of(TERMS, "LOOKING n times (1 .. 6), each drawn evenly of all there is (put back): the MEAN of the best worth.", () -> {
            for (int n : new int[] {-1, 0, 7, MIN, MAX}) {
                e.is("mean(" + n + ", 0)", with(1, 10, 1, 20).mean(n, 0), LOST);
            }
            mean(with(1, 10, 1, 20), 1, 15, 1);
            mean(with(1, 10, 1, 20), 2, 35, 2);
            // (63*20 and 10) by 64.
            mean(with(1, 10, 1, 20), 6, 635, 32);
            // Evenly: nine of ten are worth nothing.
            mean(with(9, 0, 1, 10), 1, 1, 1);
            mean(with(9, 0, 1, 10), 2, 19, 10);
            // Put back: one alone can be drawn each time.
            mean(with(1, 7), 6, 7, 1);
            // What none lies of is not drawn, nor a stone that was not told.
            mean(with(1, 10, 0, 99), 6, 10, 1);
            SkipStones x = with(1, 10);
            x.stone(1, 1, 1);
            mean(x, 1, 10, 1);
            // Alike in worth, but two stones.
            mean(with(1, 5, 2, 5), 3, 5, 1);
            mean(with(9, 0), 6, 0, 1);
            mean(with(9, 99, 9, 99, 9, 99, 9, 99, 9, 99, 9, 99, 9, 99, 9, 99), 6, 99, 1);
            // 71 of them, 8 worth 1: a lower number of 71 to the sixth.
            mean(with(9, 0, 9, 0, 9, 0, 9, 0, 9, 0, 9, 0, 9, 0, 8, 1), 6, power(71, 6) - power(63, 6), power(71, 6));
            mean(with(9, 99, 9, 99, 9, 99, 9, 99, 9, 99, 9, 99, 9, 99, 8, 98), 6,
                99 * power(71, 6) - power(8, 6), power(71, 6));
        });
        e.of(TERMS, "HOURS: the n with the greatest MEAN less n times a cost (0 .. 99);", () -> {
            e.is("a cost of -1", with(1, 0, 1, 99).hours(-1), -2);
            e.is("a cost of 100", with(1, 0, 1, 99).hours(100), -2);
            // One look more is worth 24.75, 12.375, 6.1875, 3.09375, 1.546875.
            int[] costs = {0, 1, 2, 3, 4, 6, 7, 12, 13, 24, 25, 99};
            int[] want = {6, 6, 5, 5, 4, 4, 3, 3, 2, 2, 1, 1};
            for (int c = 0; c < costs.length; c++) {
                hours(with(1, 0, 1, 99), costs[c], want[c]);
            }
            hours(with(9, 0, 9, 0, 9, 0, 9, 0, 9, 0, 9, 0, 9, 0, 8, 1), 0, 6);
            hours(with(9, 0, 9, 0, 9, 0, 9, 0, 9, 0, 9, 0, 9, 0, 8, 1), 1, 1);
            // 8*9/72 of them: it is 12.375 the first time, and a look more is worth 10.8 ..
            hours(with(9, 0, 9, 0, 9, 0, 9, 0, 9, 0, 9, 0, 9, 0, 9, 99), 10, 2);
            hours(with(9, 0, 9, 0, 9, 0, 9, 0, 9, 0, 9, 0, 9, 0, 9, 99), 11, 1);
        });
        e.of(TERMS, "of several the least.", () -> {
            // MEANS 4, 6, 7, 7.5, 7.75, 7.875.
            hours(with(1, 0, 1, 8), 2, 1);
            hours(with(1, 0, 1, 8), 1, 2);
            hours(with(9, 50), 0, 1);
            hours(with(9, 0), 0, 1);
        });
    }

    private void beaches() {
        e.of(21, "Of a STONE so many lie on the BEACH, worth so much each: 1; 0: it was so.", () -> {
            SkipStones x = with(0, 0);
            int[][] told = {{0, 0, 0}, {0, 1, 1}, {0, 1, 0}, {1, 1, 1}, {1, 1, 0}, {9, 99, 1}, {9, 99, 0}, {9, 98, 1},
                {8, 98, 1}, {0, 98, 1}, {0, 98, 0}, {0, 0, 1}};
            for (int[] b : told) {
                e.is("beach(0, " + b[0] + ", " + b[1] + ")", x.beach(0, b[0], b[1]), b[2]);
            }
        });
        e.of(21, "UNKNOWN;", () -> {
            e.is("there are none", new SkipStones().beach(0, 1, 1), -1);
            for (int s : new int[] {-1, 1, 8, MIN, MAX}) {
                e.is("beach(" + s + ", 1, 1)", with(1, 1).beach(s, 1, 1), -1);
                e.is("beach(" + s + ", 10, 100): the first of both", with(1, 1).beach(s, 10, 100), -1);
            }
        });
        e.of(21, "OUTSIDE.", () -> {
            SkipStones x = with(5, 50);
            int[][] outside = {{-1, 5}, {10, 5}, {5, -1}, {5, 100}, {MIN, 5}, {MAX, 5}, {5, MIN}, {5, MAX}};
            for (int[] b : outside) {
                e.is("beach(0, " + b[0] + ", " + b[1] + ")", x.beach(0, b[0], b[1]), -2);
            }
            e.is("it stays", x.beach(0, 5, 50), 0);
        });
    }

    private void means() {
        e.of(22, "MEAN of LOOKING n times.", () -> {
            mean(with(1, 10, 1, 20), 1, 15, 1);
            mean(with(1, 10, 1, 20), 6, 635, 32);
            mean(with(2, 3, 1, 6), 2, 14, 3);
        });
        e.of(22, "LOST: OUTSIDE;", () -> {
            for (int n : new int[] {-1, 0, 7, MIN, MAX}) {
                e.is("mean(" + n + ", 0)", with(1, 10).mean(n, 0), LOST);
                e.is("mean(" + n + ", 1)", with(1, 10).mean(n, 1), LOST);
            }
            for (int which : new int[] {-1, 2, MIN, MAX}) {
                e.is("mean(1, " + which + ")", with(1, 10).mean(1, which), LOST);
            }
        });
        e.of(22, "STATE: nothing lies there.", () -> {
            e.is("no stones", new SkipStones().mean(1, 0), LOST);
            e.is("none of them lies there", with(0, 99, 0, 5).mean(1, 1), LOST);
            SkipStones x = with(1, 7);
            mean(x, 1, 7, 1);
            x.beach(0, 0, 7);
            e.is("none lies there again", x.mean(1, 0), LOST);
            x.beach(0, 1, 0);
            mean(x, 1, 0, 1);
        });
    }

    private void hours() {
        e.of(23, "HOURS.", () -> {
            hours(with(1, 0, 1, 8), 0, 6);
            hours(with(1, 0, 1, 8), 1, 2);
            hours(with(1, 0, 1, 8), 99, 1);
        });
        e.of(23, "OUTSIDE;", () -> {
            for (int cost : new int[] {-1, 100, MIN, MAX}) {
                hours(with(1, 10), cost, -2);
                hours(new SkipStones(), cost, -2);
            }
            hours(with(1, 10), 0, 1);
            hours(with(1, 10), 99, 1);
        });
        e.of(23, "STATE: as mean().", () -> {
            hours(new SkipStones(), 0, -3);
            hours(with(0, 99, 0, 5), 99, -3);
            SkipStones x = with(1, 7);
            hours(x, 0, 1);
            x.beach(0, 0, 7);
            hours(x, 0, -3);
            x.beach(0, 1, 0);
            hours(x, 0, 1);
        });
    }
}
