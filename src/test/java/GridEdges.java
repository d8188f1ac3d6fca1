/** The edges of lines, grids, rings and shifts: promises 12 to 20 and their terms. */
final class GridEdges {
    private static final int MIN = Integer.MIN_VALUE, MAX = Integer.MAX_VALUE;
    private static final long LOST = Long.MIN_VALUE;
    private static final int TERMS = Edges.TERMS;

    /** A call over a grid of a stone. */
    private interface Over {
        long by(SkipStones x, int stone, int v, int dv, int n, int dn);
    }

    private final Edges e;

    GridEdges(Edges e) {
        this.e = e;
    }

    void all() {
        lineTerms();
        gridTerms();
        bestTerms();
        oddsTerms();
        ringTerms();
        readTerms();
        whenTerms();
        lines();
        bests();
        gridsTold();
        odds();
        narrows();
        rings();
        reads();
        theres();
        whens();
    }

    private static SkipStones with(int weight, int wide, int rough, String law) {
        SkipStones x = new SkipStones();
        x.stone(weight, wide, rough);
        if (!law.isEmpty()) {
            Due.law(x, law);
        }
        return x;
    }

    /** SPEED times TILT by 10 lifts it: with FALL 40, as of the grids, it sinks below 50. */
    private static SkipStones plain() {
        SkipStones x = with(1, 20, 0, "");
        x.grid(40, 99);
        return x;
    }

    /** As plain(), but a touch that does not sink takes all SPEED: it counts 1, if SPEED times TILT is 500 or more, else 0. */
    private static SkipStones once() {
        SkipStones x = with(1, 20, 0, "h1;r50");
        x.grid(40, 99);
        return x;
    }

    // ---- terms

    private void lineTerms() {
        e.of(TERMS, "LINE of a STONE at a SLANT, a FALL: the least SPEED (1 .. 300)", () -> {
            e.is("line(0, 10, 40)", plain().line(0, 10, 40), 50);
            e.is("line(0, 11, 40): 45.45 is too slow", plain().line(0, 11, 40), 46);
            // 1*99*2/10 = 19 is not less than 11, 1*99*1/10 = 9 is.
            e.is("the least of all", with(1, 99, 0, "l1").line(0, 2, 1), 1);
            e.is("the next", with(1, 99, 0, "l1").line(0, 1, 1), 2);
            // 300*20*10/200 = 300 = 6*50; 6*51 is more.
            e.is("the greatest of all", with(6, 20, 0, "").line(0, 10, 40), 300);
            e.is("more", with(6, 20, 0, "").line(0, 10, 41), -9);
        });
        e.of(TERMS, "with which the first TOUCH (by the WAVE there) is not SUNK.", () -> {
            SkipStones x = plain();
            Due.waves(x, 5, -1);
            e.is("15", x.line(0, 10, 40), 34);
            x.shift(1);
            e.is("9", x.line(0, 10, 40), 56);
            e.is("0", x.line(0, 1, 40), -9);
            e.is("1", x.line(0, 2, 1), 110);
            e.is("44", x.line(0, 45, 40), 12);
            x.shift(0);
            e.is("45", x.line(0, 40, 40), 12);
            e.is("46", x.line(0, 41, 40), -9);
            e.is("50", x.line(0, 45, 1), -9);
        });
    }

    private void gridTerms() {
        Over[] calls = {
            (x, s, v, dv, n, dn) -> x.best(s, v, dv, n, dn, 0, 0),
            (x, s, v, dv, n, dn) -> x.narrow(s, v, dv, n, dn, 0, 0),
            (x, s, v, dv, n, dn) -> x.read(s, v, dv, n, dn, 0),
            (x, s, v, dv, n, dn) -> x.there(s, v, dv, n, dn, 0, 9),
            (x, s, v, dv, n, dn) -> x.odds(s, v, dv, n, dn, 0, 0, 0) == LOST ? -2 : 0};
        String[] names = {"best", "narrow", "read", "there", "odds"};
        e.of(TERMS, "A GRID: SPEEDS v .. (v and dv) (dv 0 .. 20),", () -> {
            for (int c = 0; c < calls.length; c++) {
                outside(names[c], calls[c], new int[][] {{9, -1, 5, 5}, {9, 21, 5, 5}, {9, MIN, 5, 5}, {9, MAX, 5, 5}});
                inside(names[c], calls[c], new int[][] {{9, 0, 5, 5}, {9, 20, 5, 5}});
            }
            // All of them, and no more: SPEEDS 49, 50, 51 with one slant.
            e.is("there", once().there(0, 49, 2, 10, 0, 0, 0), 3);
            e.is("best at the first", once().best(0, 50, 2, 10, 0, 0, 1), 50);
            e.is("best at the last", once().best(0, 48, 2, 10, 0, 0, 1), 50);
            e.is("not behind it", once().best(0, 48, 1, 10, 0, 0, 0), 0);
        });
        e.of(TERMS, "SLANTS n .. (n and dn) (dn 0 .. 10),", () -> {
            for (int c = 0; c < calls.length; c++) {
                outside(names[c], calls[c], new int[][] {{9, 5, 5, -1}, {9, 5, 5, 11}, {9, 5, 5, MIN}, {9, 5, 5, MAX}});
                inside(names[c], calls[c], new int[][] {{9, 5, 5, 0}, {9, 5, 5, 10}});
            }
            e.is("there", once().there(0, 50, 0, 9, 2, 0, 0), 3);
            e.is("best at the first", once().best(0, 50, 0, 10, 2, 0, 2), 10);
            e.is("best at the last", once().best(0, 50, 0, 8, 2, 0, 2), 10);
            e.is("not behind it", once().best(0, 50, 0, 8, 1, 0, 0), 0);
        });
        e.of(TERMS, "all as a THROW may have them,", () -> {
            for (int c = 0; c < calls.length; c++) {
                outside(names[c], calls[c], new int[][] {{0, 5, 5, 5}, {-1, 5, 5, 5}, {301, 0, 5, 5}, {300, 1, 5, 5},
                    {281, 20, 5, 5}, {9, 5, -1, 5}, {9, 5, 46, 0}, {9, 5, 45, 1}, {9, 5, 36, 10}, {MIN, 5, 5, 5},
                    {MAX, 5, 5, 5}, {MAX, MAX, 5, 5}, {9, 5, MIN, 5}, {9, 5, MAX, 5}, {9, 5, MAX, MAX}, {MIN, MIN, MIN, MIN}});
                inside(names[c], calls[c], new int[][] {{1, 5, 5, 5}, {1, 0, 0, 0}, {300, 0, 45, 0}, {280, 20, 35, 10},
                    {9, 5, 0, 10}});
            }
        });
        e.of(TERMS, "with a FALL, a SPIN.", () -> {
            SkipStones x = plain();
            e.is("a FALL of 40", x.best(0, 50, 0, 10, 0, 0, 0) > 0 ? 1 : 0, 1);
            x.grid(41, 99);
            e.is("a FALL of 41 sinks", x.best(0, 50, 0, 10, 0, 0, 0), 0);
            // Of SPIN 0 the second has SLANT 14: 84*14/10 is not less, so it takes 84*19/100+1 = 16, else 13.
            x.grid(40, 0);
            e.is("a SPIN of 0", x.best(0, 100, 0, 10, 0, 4, 0), farOf(100, 40, 10, 0));
            x.grid(40, 99);
            e.is("a SPIN of 99", x.best(0, 100, 0, 10, 0, 4, 0), 385);
            e.is("they are not alike", farOf(100, 40, 10, 0) == 385 ? 1 : 0, 0);
        });
    }

    private static int farOf(int speed, int fall, int slant, int spin) {
        SkipStones x = with(1, 20, 0, "");
        x.toss(0, speed, fall, slant, spin);
        return x.judge(4);
    }

    private void outside(String name, Over call, int[][] grids) {
        SkipStones x = plain();
        Due.rings(x, 5);
        for (int[] g : grids) {
            e.is(name + " of " + g[0] + ", " + g[1] + ", " + g[2] + ", " + g[3], call.by(x, 0, g[0], g[1], g[2], g[3]), -2);
        }
    }

    private void inside(String name, Over call, int[][] grids) {
        SkipStones x = plain();
        Due.rings(x, 5);
        for (int[] g : grids) {
            e.is(name + " of " + g[0] + ", " + g[1] + ", " + g[2] + ", " + g[3] + " is OUTSIDE",
                call.by(x, 0, g[0], g[1], g[2], g[3]) == -2 ? 1 : 0, 0);
        }
    }

    private void best(SkipStones x, int v, int dv, int n, int dn, int j, int... want) {
        for (int what = 0; what < 3; what++) {
            e.is("best(0, " + v + ", " + dv + ", " + n + ", " + dn + ", " + j + ", " + what + ")",
                x.best(0, v, dv, n, dn, j, what), want[what]);
        }
    }

    private void bestTerms() {
        e.of(TERMS, "BEST by a JUDGE (or FAR: 4): of all the most;", () -> {
            best(once(), 48, 2, 8, 2, 0, 1, 50, 10);
            best(plain(), 100, 0, 10, 0, 0, 13, 100, 10);
            best(plain(), 100, 0, 10, 0, 1, 7, 100, 10);
            best(plain(), 100, 0, 10, 0, 2, 11, 100, 10);
            best(plain(), 100, 0, 10, 0, 3, 6, 100, 10);
            best(plain(), 100, 0, 10, 0, 4, 385, 100, 10);
            // The most comes first: the later slant sinks by the wave.
            SkipStones x = once();
            Due.waves(x, 1);
            best(x, 50, 2, 44, 1, 0, 1, 50, 44);
        });
        e.of(TERMS, "of several the least SPEED, then the least SLANT.", () -> {
            // 49*11 and 50*10 are 500 or more, 49*10 and 50*9 are not.
            best(once(), 49, 2, 9, 3, 0, 1, 49, 11);
            best(once(), 50, 2, 9, 3, 0, 1, 50, 10);
            best(once(), 60, 20, 20, 10, 0, 1, 60, 20);
            best(once(), 1, 20, 0, 10, 0, 0, 1, 0);
            best(once(), 5, 3, 0, 2, 3, 1, 5, 0);
            best(once(), 60, 20, 20, 10, 4, 0, 60, 20);
        });
    }

    private void odds(SkipStones x, int v, int dv, int n, int dn, int m, int upper, int lower) {
        String call = "odds(0, " + v + ", " + dv + ", " + n + ", " + dn + ", 0, " + m + ", ";
        e.is(call + "0)", x.odds(0, v, dv, n, dn, 0, m, 0), upper);
        e.is(call + "1)", x.odds(0, v, dv, n, dn, 0, m, 1), lower);
    }

    private void narrow(SkipStones x, int v, int dv, int n, int dn, int m, int want) {
        e.is("narrow(0, " + v + ", " + dv + ", " + n + ", " + dn + ", 0, " + m + ")",
            x.narrow(0, v, dv, n, dn, 0, m), want);
    }

    private void oddsTerms() {
        e.of(TERMS, "ODDS of m or more, by a JUDGE (or FAR: 4): of all throws of the GRID the share that counts m or more.",
            () -> {
                // SPEEDS 48 .. 51, SLANTS 9 .. 11: 11 with all four, 10 with 50 and 51.
                odds(once(), 48, 3, 9, 2, 1, 1, 2);
                odds(once(), 48, 3, 9, 2, 0, 1, 1);
                odds(once(), 48, 3, 9, 2, -1, 1, 1);
                odds(once(), 48, 3, 9, 2, MIN, 1, 1);
                odds(once(), 48, 3, 9, 2, 2, 0, 1);
                odds(once(), 48, 3, 9, 2, MAX, 0, 1);
                odds(plain(), 100, 0, 10, 0, 13, 1, 1);
                odds(plain(), 100, 0, 10, 0, 14, 0, 1);
                int[] counts = {13, 7, 11, 6, 385};
                for (int j = 0; j < 5; j++) {
                    e.is("odds by " + j, plain().odds(0, 100, 0, 10, 0, j, counts[j], 0), 1);
                    e.is("odds of one more by " + j, plain().odds(0, 100, 0, 10, 0, j, counts[j] + 1, 0), 0);
                }
            });
        e.of(TERMS, "NARROW: which span is made less by 1 (at its end) for the greater ODDS: 0 SPEEDS, 1 SLANTS", () -> {
            // By a wave of 1 SLANT 45 sinks: SPEEDS less 2 of 6, SLANTS less 3 of 4.
            SkipStones x = once();
            Due.waves(x, 1);
            narrow(x, 11, 3, 44, 1, 1, 1);
            // SPEEDS 48 .. 51, SLANTS 9 .. 11: SPEEDS less 4 of 9, SLANTS less 2 of 8.
            narrow(once(), 48, 3, 9, 2, 1, 0);
            // SPEEDS less 3 of 4, SLANTS less 4 of 6: it is the share that counts.
            narrow(once(), 50, 1, 9, 3, 1, 0);
            // At its end: without 12 none of 2 is left, but without 11, the first, it would be 1 of 2, as without SLANT 45.
            narrow(x, 11, 1, 44, 1, 1, 1);
            // SPEEDS less 3 of 6, SLANTS less 4 of 4.
            narrow(x, 12, 3, 44, 1, 1, 1);
        });
        e.of(TERMS, "(0, if these ODDS are alike;", () -> {
            narrow(once(), 60, 4, 20, 4, 1, 0);
            narrow(once(), 1, 4, 1, 4, 1, 0);
            narrow(once(), 48, 3, 9, 2, MIN, 0);
            narrow(once(), 48, 3, 9, 2, MAX, 0);
            // Just 50 by 10 goes, the last of all.
            narrow(once(), 49, 1, 9, 1, 1, 0);
        });
        e.of(TERMS, "a span of 0 cannot be less: then the other one).", () -> {
            narrow(once(), 48, 3, 10, 0, 1, 0);
            narrow(once(), 50, 0, 9, 3, 1, 1);
            narrow(once(), 60, 0, 20, 1, 1, 1);
            narrow(once(), 60, 1, 20, 0, 1, 0);
        });
    }

    /** A throw whose touches are by X 2 4 .. 40, and then 41 42 ..: more than twenty rings could be told of it. */
    private static SkipStones slow() {
        SkipStones x = with(1, 99, 0, "r0;s0;l1;u99;h45");
        x.grid(1, 99);
        return x;
    }

    private static int[] evenPlaces(int many) {
        int[] places = new int[many];
        for (int r = 0; r < many; r++) {
            places[r] = 2 * (r + 1);
        }
        return places;
    }

    private void ringTerms() {
        e.of(TERMS, "RINGS: a row of 1 to 20 places told (1 at least:", () -> {
            for (int n = 0; n <= 60; n++) {
                SkipStones x = slow();
                boolean stands = n >= 1 && n <= 20;
                e.is("rings of " + n, Due.rings(x, evenPlaces(n)), stands ? n : -2);
                e.is("many(3)", x.many(3), stands ? n : 0);
            }
            int[] least = {0, -1, MIN};
            for (int place : least) {
                e.is("rings at " + place, Due.rings(slow(), place), -2);
                e.is("rings ending at " + place, Due.rings(slow(), 2, 4, place), -2);
            }
            e.is("rings at 1", Due.rings(slow(), 1), 1);
            e.is("rings at the greatest", Due.rings(slow(), 1, MAX), 2);
        });
        e.of(TERMS, "X of the second TOUCH, of the third .., a SUNK one, too;", () -> {
            SkipStones x = plain();
            // (100, 21) touches at 0, 94, 138 and sinks there.
            read(x, 100, 21, 1, 94);
            read(x, 100, 21, 1, 94, 138);
            read(x, 100, 21, 0, 94, 139);
            read(x, 100, 21, 0, 95, 138);
            read(x, 100, 21, 0, 138);
            read(x, 100, 21, 0, 94, 138, 138);
            // (49, 10) sinks at once, and has no second one.
            read(x, 49, 10, 0, 1);
            // All twenty are looked at.
            int[] twenty = evenPlaces(20);
            read(slow(), 60, 1, 1, twenty);
            twenty[19]++;
            read(slow(), 60, 1, 0, twenty);
            twenty[19]--;
            twenty[0]--;
            read(slow(), 60, 1, 0, twenty);
        });
        e.of(TERMS, "whatever comes behind them).", () -> {
            read(plain(), 100, 10, 1, 134);
            read(plain(), 100, 10, 1, 134, 222);
            read(plain(), 100, 21, 1, 94);
            read(slow(), 60, 1, 1, evenPlaces(3));
        });
    }

    private void read(SkipStones x, int speed, int slant, int want, int... places) {
        Due.rings(x, places);
        e.is("read of (" + speed + ", " + slant + ") with " + places.length + " rings from " + places[0] + " on",
            x.read(0, speed, 0, slant, 0, 0), want);
    }

    /** At 84 (62, 11), steep, (63, 10), clean, and (63, 11) come down, but (62, 10) does not. */
    private static SkipStones alike() {
        SkipStones x = with(1, 20, 0, "h10");
        x.grid(40, 99);
        Due.rings(x, 84);
        return x;
    }

    private void readTerms() {
        e.of(TERMS, "READ: throws of a GRID whose TOUCHES are so: how many, the first by SPEED, then SLANT.", () -> {
            SkipStones x = alike();
            e.is("how many", x.read(0, 62, 1, 10, 1, 0), 3);
            e.is("SPEED", x.read(0, 62, 1, 10, 1, 1), 62);
            e.is("SLANT", x.read(0, 62, 1, 10, 1, 2), 11);
            e.is("how many of 63", x.read(0, 63, 0, 10, 1, 0), 2);
            e.is("SPEED of 63", x.read(0, 63, 0, 10, 1, 1), 63);
            e.is("SLANT of 63", x.read(0, 63, 0, 10, 1, 2), 10);
            e.is("(62, 10) is none", x.read(0, 62, 0, 10, 0, 0), 0);
        });
        e.of(TERMS, "THERE: throws of a GRID for which FAR is from a to b: how many.", () -> {
            int[][] spans = {{385, 385, 1}, {385, 386, 1}, {384, 385, 1}, {0, 384, 0}, {386, MAX, 0}, {MIN, MAX, 1},
                {386, 385, 0}, {MAX, MIN, 0}, {-1, -1, 0}};
            for (int[] s : spans) {
                e.is("there from " + s[0] + " to " + s[1], plain().there(0, 100, 0, 10, 0, s[0], s[1]), s[2]);
            }
            e.is("there of some that sink at once", plain().there(0, 48, 2, 10, 0, 0, 0), 2);
            e.is("and of the one that does not", plain().there(0, 48, 2, 10, 0, 1, MAX), 1);
            e.is("there of the greatest grid", plain().there(0, 1, 20, 0, 10, MIN, MAX), 231);
        });
    }

    private void when(SkipStones x, int speed, int slant, int j, int shift, int many) {
        String call = "when(0, " + speed + ", " + slant + ", " + j + ", ";
        e.is(call + "0)", x.when(0, speed, slant, j, 0), shift);
        e.is(call + "1)", x.when(0, speed, slant, j, 1), many);
    }

    private void whenTerms() {
        e.of(TERMS, "WHEN: of all SHIFTS 0 .. (how many WAVES less 1) that with which a throw (FALL, SPIN as of GRIDS) counts"
            + " the most by a JUDGE (or FAR);", () -> {
                when(once(), 50, 10, 0, 0, 1);
                SkipStones x = once();
                Due.waves(x, -9, -9, 0);
                when(x, 50, 10, 0, 2, 1);
                Due.waves(x, 0, -9, -9);
                when(x, 50, 10, 0, 0, 1);
                int[] twenty = new int[20];
                java.util.Arrays.fill(twenty, -9);
                twenty[19] = 0;
                Due.waves(x, twenty);
                x.shift(7);
                when(x, 50, 10, 0, 19, 1);
                e.is("SHIFT stays", x.shift(7), 7);
                x.grid(41, 99);
                when(x, 50, 10, 0, 0, 0);
                x = plain();
                int[] counts = {13, 7, 11, 6, 385};
                for (int j = 0; j < 5; j++) {
                    when(x, 100, 10, j, 0, counts[j]);
                }
                x.grid(40, 0);
                when(x, 100, 10, 4, 0, farOf(100, 40, 10, 0));
            });
        e.of(TERMS, "of several the least.", () -> {
            SkipStones x = once();
            Due.waves(x, -9, 0, 1, 0);
            when(x, 50, 10, 0, 1, 1);
            Due.waves(x, -9, -9, -9);
            x.shift(2);
            when(x, 50, 10, 0, 0, 0);
            when(x, 50, 10, 3, 0, 1);
            when(x, 50, 10, 4, 0, 0);
        });
    }

    // ---- promises

    private void lines() {
        e.of(12, "LINE;", () -> {
            e.is("line(0, 10, 40)", plain().line(0, 10, 40), 50);
            e.is("line(0, 45, 99): 24*45/10 = 108", plain().line(0, 45, 99), 25);
            e.is("line(0, 1, 1)", plain().line(0, 1, 1), 110);
            SkipStones x = plain();
            Due.law(x, "l40");
            e.is("by the law", x.line(0, 10, 40), 100);
            e.is("no throw is kept", x.many(1), 0);
        });
        e.of(12, "NONE: with none.", () -> {
            e.is("no tilt", plain().line(0, 0, 1), -9);
            e.is("300 is just so", with(6, 20, 0, "").line(0, 10, 40), 300);
            e.is("300 is too slow", with(6, 20, 0, "").line(0, 10, 41), -9);
        });
        e.of(12, "UNKNOWN;", () -> {
            e.is("there are none", new SkipStones().line(0, 1, 1), -1);
            for (int s : new int[] {-1, 1, 8, MIN, MAX}) {
                e.is("line(" + s + ", 10, 40)", plain().line(s, 10, 40), -1);
                e.is("line(" + s + ", 46, 0): the first of both", plain().line(s, 46, 0), -1);
            }
        });
        e.of(12, "OUTSIDE: slant, fall.", () -> {
            int[][] outside = {{-1, 40}, {46, 40}, {10, 0}, {10, 100}, {MIN, 40}, {MAX, 40}, {10, MIN}, {10, MAX}};
            for (int[] l : outside) {
                e.is("line(0, " + l[0] + ", " + l[1] + ")", plain().line(0, l[0], l[1]), -2);
            }
            int[][] inside = {{0, 40}, {45, 40}, {10, 1}, {10, 99}};
            for (int[] l : inside) {
                e.is("line(0, " + l[0] + ", " + l[1] + ") is OUTSIDE", plain().line(0, l[0], l[1]) == -2 ? 1 : 0, 0);
            }
        });
    }

    private void unknownStones(String name, Over call, long want) {
        e.is(name + ": there are none", call.by(new SkipStones(), 0, 9, 5, 5, 5), want);
        for (int s : new int[] {-1, 1, 8, MIN, MAX}) {
            SkipStones x = plain();
            e.is(name + " of " + s, call.by(x, s, 9, 5, 5, 5), want);
            e.is(name + " of " + s + ": the first of both", call.by(x, s, 0, -1, -1, -1), want);
        }
    }

    private void bests() {
        e.of(13, "BEST by a JUDGE (or 4) of a GRID with FALL, SPIN as told last (30, 60 at first): how many (what 0),"
            + " SPEED (1), SLANT (2).", () -> {
                SkipStones x = with(1, 20, 0, "");
                e.is("at first", x.best(0, 100, 0, 10, 0, 4, 0), farOf(100, 30, 10, 60));
                e.is("another FALL", farOf(100, 40, 10, 60) == farOf(100, 30, 10, 60) ? 1 : 0, 0);
                e.is("another SPIN", farOf(100, 30, 10, 20) == farOf(100, 30, 10, 60) ? 1 : 0, 0);
                x.grid(40, 20);
                x.grid(0, 21);
                e.is("as told last", x.best(0, 100, 0, 10, 0, 4, 0), farOf(100, 40, 10, 20));
                best(once(), 49, 2, 9, 3, 0, 1, 49, 11);
                e.is("no throw is kept", x.many(1), 0);
            });
        e.of(13, "UNKNOWN: STONE, JUDGE;", () -> {
            unknownStones("best", (x, s, v, dv, n, dn) -> x.best(s, v, dv, n, dn, 9, 9), -1);
            for (int j : new int[] {-1, 5, MIN, MAX}) {
                e.is("best by " + j, plain().best(0, 9, 5, 5, 5, j, 0), -1);
                e.is("best by " + j + ": the first of both", plain().best(0, 0, -1, -1, -1, j, 9), -1);
            }
            for (int j = 0; j <= 4; j++) {
                e.is("best by " + j, plain().best(0, 9, 5, 5, 5, j, 1), 9);
            }
        });
        e.of(13, "OUTSIDE.", () -> {
            for (int what : new int[] {-1, 3, MIN, MAX}) {
                e.is("best of what " + what, plain().best(0, 9, 5, 5, 5, 0, what), -2);
            }
            outside("best", (x, s, v, dv, n, dn) -> x.best(s, v, dv, n, dn, 4, 2),
                new int[][] {{0, 5, 5, 5}, {281, 20, 5, 5}, {9, 21, 5, 5}, {9, 5, 36, 10}, {9, 5, -1, 5}, {9, 5, 5, 11}});
        });
    }

    private void gridsTold() {
        e.of(14, "FALL, SPIN of GRIDS become so: 1; 0: they were.", () -> {
            SkipStones x = with(1, 20, 0, "");
            int[][] told = {{30, 60, 0}, {30, 61, 1}, {30, 61, 0}, {31, 61, 1}, {31, 61, 0}, {1, 0, 1}, {1, 0, 0},
                {99, 99, 1}, {99, 99, 0}, {30, 60, 1}};
            for (int[] g : told) {
                e.is("grid(" + g[0] + ", " + g[1] + ")", x.grid(g[0], g[1]), g[2]);
            }
        });
        e.of(14, "OUTSIDE.", () -> {
            SkipStones x = with(1, 20, 0, "");
            int[][] outside = {{0, 60}, {100, 60}, {30, -1}, {30, 100}, {MIN, 60}, {MAX, 60}, {30, MIN}, {30, MAX}};
            for (int[] g : outside) {
                e.is("grid(" + g[0] + ", " + g[1] + ")", x.grid(g[0], g[1]), -2);
            }
            e.is("they stay", x.grid(30, 60), 0);
        });
    }

    private void odds() {
        e.of(15, "ODDS of m or more.", () -> {
            odds(once(), 48, 3, 9, 2, 1, 1, 2);
            // SLANT 10 with 50 .. 68 of 48 .. 68.
            odds(once(), 48, 20, 10, 0, 1, 19, 21);
            odds(once(), 1, 20, 0, 10, 0, 1, 1);
            odds(once(), 1, 20, 0, 10, 1, 0, 1);
        });
        e.of(15, "LOST: UNKNOWN: STONE, JUDGE;", () -> {
            unknownStones("odds", (x, s, v, dv, n, dn) -> x.odds(s, v, dv, n, dn, 0, 1, 0), LOST);
            for (int j : new int[] {-1, 5, MIN, MAX}) {
                e.is("odds by " + j, plain().odds(0, 9, 5, 5, 5, j, 0, 0), LOST);
            }
            for (int j = 0; j <= 4; j++) {
                e.is("odds by " + j, plain().odds(0, 9, 5, 5, 5, j, 0, 0), 1);
            }
        });
        e.of(15, "OUTSIDE: the GRID, which.", () -> {
            for (int which : new int[] {-1, 2, MIN, MAX}) {
                e.is("odds of which " + which, plain().odds(0, 9, 5, 5, 5, 0, 0, which), LOST);
            }
            int[][] grids = {{0, 5, 5, 5}, {281, 20, 5, 5}, {9, 21, 5, 5}, {9, -1, 5, 5}, {9, 5, 36, 10}, {9, 5, -1, 5},
                {9, 5, 5, 11}, {9, 5, 5, -1}};
            for (int[] g : grids) {
                e.is("odds of " + g[0] + ", " + g[1] + ", " + g[2] + ", " + g[3],
                    plain().odds(0, g[0], g[1], g[2], g[3], 0, 0, 1), LOST);
            }
        });
    }

    private void narrows() {
        e.of(16, "NARROW;", () -> {
            SkipStones x = once();
            narrow(x, 48, 3, 9, 2, 1, 0);
            Due.waves(x, 1);
            narrow(x, 11, 3, 44, 1, 1, 1);
            e.is("by FAR", plain().narrow(0, 49, 1, 10, 1, 4, 1), 0);
        });
        e.of(16, "NONE: both spans are 0.", () -> {
            narrow(once(), 50, 0, 10, 0, 1, -9);
            narrow(once(), 300, 0, 45, 0, 0, -9);
            narrow(once(), 50, 1, 10, 0, 1, 0);
            narrow(once(), 50, 0, 10, 1, 1, 1);
            narrow(once(), 301, 0, 10, 0, 1, -2);
        });
        e.of(16, "UNKNOWN: STONE, JUDGE;", () -> {
            unknownStones("narrow", (x, s, v, dv, n, dn) -> x.narrow(s, v, dv, n, dn, 9, 1), -1);
            for (int j : new int[] {-1, 5, MIN, MAX}) {
                e.is("narrow by " + j, plain().narrow(0, 9, 5, 5, 5, j, 0), -1);
                e.is("narrow by " + j + ": the first of both", plain().narrow(0, 0, -1, -1, -1, j, 0), -1);
                e.is("narrow by " + j + " of spans of 0", plain().narrow(0, 9, 0, 5, 0, j, 0), -1);
            }
            for (int j = 0; j <= 4; j++) {
                e.is("narrow by " + j, plain().narrow(0, 9, 5, 5, 5, j, 0), 0);
            }
        });
        e.of(16, "OUTSIDE.", () -> outside("narrow", (x, s, v, dv, n, dn) -> x.narrow(s, v, dv, n, dn, 4, 1),
            new int[][] {{0, 5, 5, 5}, {281, 20, 5, 5}, {9, 21, 5, 5}, {9, -1, 5, 5}, {9, 5, 36, 10}, {9, 5, -1, 5},
                {9, 5, 5, 11}, {9, 5, 5, -1}, {0, 0, 5, 0}, {9, 0, 46, 0}}));
    }

    private void rings() {
        e.of(17, "RINGS by n such cells: n.", () -> {
            for (int lane = 0; lane < 3; lane++) {
                SkipStones x = plain();
                Due.write(x, lane, lane, 1, 94, 127, 5);
                e.is("from 1 on, 2", x.rings(lane, lane, 1, 2), 2);
                e.is("many(3)", x.many(3), 2);
                e.is("the last alone", x.rings(lane, lane, 3, 1), 1);
                e.is("all", x.rings(lane, lane, 0, 4), 4);
                e.is("from 1 on, 1", x.rings(lane, lane, 1, 1), 1);
                x.put(lane, 1, 95);
                e.is("what comes to the cells later is no ring", x.read(0, 100, 0, 21, 0, 0), 1);
            }
        });
        new CellEdges(e, 17, "rings", SkipStones::rings).all("CAST;", "SIZE;");
        e.of(17, "OUTSIDE: n is not 1 .. 20, a place below 1.", () -> {
            SkipStones x = plain();
            Due.rings(x, 94);
            Due.write(x, 0, 2, new int[22]);
            for (int i = 0; i < 22; i++) {
                x.put(0, i, 1);
            }
            for (int n : new int[] {0, 21, 22}) {
                x.put(0, 60, 0);
                e.is("rings of " + n, x.rings(0, 2, 0, n), -2);
                e.is("fault()", x.fault(), 0);
            }
            e.is("INDEX comes first", x.rings(0, 2, 0, 23), -13);
            e.is("INDEX comes first of none", x.rings(0, 2, 23, 0), -13);
            for (int place : new int[] {0, -1, MIN}) {
                x.put(0, 19, place);
                e.is("the twentieth is " + place, x.rings(0, 2, 0, 20), -2);
            }
            e.is("they stay", x.many(3), 1);
            e.is("at 94", x.read(0, 100, 0, 21, 0, 0), 1);
            e.is("nineteen", x.rings(0, 2, 0, 19), 19);
            x.put(0, 19, 1);
            e.is("the twentieth is 1", x.rings(0, 2, 0, 20), 20);
            x.put(0, 0, 0);
            e.is("the first is 0", x.rings(0, 2, 0, 20), -2);
        });
    }

    private void reads() {
        e.of(18, "READ: how many (what 0; 0: none), SPEED (1), SLANT (2) of the first (NONE: there is none).", () -> {
            SkipStones x = alike();
            int[] want = {3, 62, 11};
            int[] none = {0, -9, -9};
            for (int what = 0; what < 3; what++) {
                e.is("read of what " + what, x.read(0, 62, 1, 10, 1, what), want[what]);
                e.is("read of what " + what + " of none", x.read(0, 62, 0, 10, 0, what), none[what]);
            }
            e.is("no throw is kept", x.many(1), 0);
        });
        e.of(18, "UNKNOWN;", () -> {
            unknownStones("read", (x, s, v, dv, n, dn) -> x.read(s, v, dv, n, dn, 9), -1);
            unknownStones("read", (x, s, v, dv, n, dn) -> x.read(s, v, dv, n, dn, 0), -1);
        });
        e.of(18, "OUTSIDE;", () -> {
            SkipStones x = plain();
            for (int told = 0; told < 2; told++) {
                for (int what : new int[] {-1, 3, MIN, MAX}) {
                    e.is("read of what " + what + " (rings told: " + told + ")", x.read(0, 9, 5, 5, 5, what), -2);
                }
                e.is("read of no grid (rings told: " + told + ")", x.read(0, 0, 5, 5, 5, 0), -2);
                Due.rings(x, 94);
            }
        });
        e.of(18, "STATE: no RINGS are told.", () -> {
            SkipStones x = plain();
            for (int what = 0; what < 3; what++) {
                e.is("read of what " + what, x.read(0, 9, 5, 5, 5, what), -3);
            }
            Due.rings(x, 0);
            e.is("refused ones are not told", x.read(0, 9, 5, 5, 5, 0), -3);
            Due.rings(x, 94);
            e.is("they are told", x.read(0, 100, 0, 21, 0, 0), 1);
        });
    }

    private void theres() {
        e.of(19, "THERE.", () -> {
            e.is("there(.., 385, 385)", plain().there(0, 100, 0, 10, 0, 385, 385), 1);
            e.is("there(.., 385, 384)", plain().there(0, 100, 0, 10, 0, 385, 384), 0);
            e.is("there(.., 0, 0) of those that end at once", once().there(0, 280, 20, 35, 10, 0, 0), 231);
        });
        e.of(19, "UNKNOWN;", () -> unknownStones("there", (x, s, v, dv, n, dn) -> x.there(s, v, dv, n, dn, 0, 0), -1));
        e.of(19, "OUTSIDE: the GRID.", () -> {
            outside("there", (x, s, v, dv, n, dn) -> x.there(s, v, dv, n, dn, 5, 4),
                new int[][] {{0, 5, 5, 5}, {281, 20, 5, 5}, {9, 21, 5, 5}, {9, -1, 5, 5}, {9, 5, 36, 10}, {9, 5, -1, 5},
                    {9, 5, 5, 11}, {9, 5, 5, -1}});
            e.is("no a, no b is OUTSIDE", plain().there(0, 9, 5, 5, 5, MAX, MIN), 0);
        });
    }

    private void whens() {
        e.of(20, "WHEN: the SHIFT (what 0), how many (1).", () -> {
            SkipStones x = once();
            Due.waves(x, -9, 0, 1, 0);
            when(x, 50, 10, 0, 1, 1);
            when(x, 300, 45, 0, 0, 1);
            when(x, 1, 0, 0, 0, 0);
            e.is("no throw is kept", x.many(1), 0);
        });
        e.of(20, "UNKNOWN: STONE, JUDGE;", () -> {
            unknownStones("when", (x, s, v, dv, n, dn) -> x.when(s, v, n, 9, 9), -1);
            unknownStones("when", (x, s, v, dv, n, dn) -> x.when(s, v, n, 0, 0), -1);
            for (int j : new int[] {-1, 5, MIN, MAX}) {
                e.is("when by " + j, plain().when(0, 50, 10, j, 0), -1);
                e.is("when by " + j + ": the first of both", plain().when(0, 0, -1, j, 9), -1);
            }
        });
        e.of(20, "OUTSIDE.", () -> {
            int[][] outside = {{0, 10, 0}, {301, 10, 0}, {50, -1, 0}, {50, 46, 0}, {50, 10, -1}, {50, 10, 2},
                {MIN, 10, 0}, {MAX, 10, 0}, {50, MIN, 0}, {50, MAX, 0}, {50, 10, MIN}, {50, 10, MAX}};
            for (int[] w : outside) {
                e.is("when(0, " + w[0] + ", " + w[1] + ", 0, " + w[2] + ")", plain().when(0, w[0], w[1], 0, w[2]), -2);
            }
            int[][] inside = {{1, 10, 0}, {300, 10, 1}, {50, 0, 0}, {50, 45, 1}};
            for (int[] w : inside) {
                e.is("when(0, " + w[0] + ", " + w[1] + ", 0, " + w[2] + ") is OUTSIDE",
                    plain().when(0, w[0], w[1], 0, w[2]) == -2 ? 1 : 0, 0);
            }
        });
    }
}
