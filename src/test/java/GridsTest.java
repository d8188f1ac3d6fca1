/** Promises 12 to 20: lines, grids of throws, rings, shifts. */
public final class GridsTest {
    private static final Due due = new Due("GridsTest");
    private static final long LOST = Long.MIN_VALUE;

    public static void main(String[] args) {
        lines();
        lineRefusals();
        grids();
        gridEdges();
        bestAgainstTosses();
        bestOfEquals();
        oddsAgainstTosses();
        oddsOfAll();
        narrowed();
        ringsTaken();
        ringsRefusals();
        readings();
        readRefusals();
        thereAgainstTosses();
        thereRefusals();
        shiftsForThrows();
        whenRefusals();
        due.end();
    }

    private static SkipStones withStone() {
        SkipStones x = new SkipStones();
        x.stone(1, 20, 0);
        return x;
    }

    private static void lines() {
        SkipStones x = withStone();
        // SPEED*20*10/200 = SPEED is not less than 40+10.
        due.is("12 line", x.line(0, 10, 40), 50);
        due.is("12 with a cut quotient", x.line(0, 11, 40), 46);
        due.is("12 no tilt", x.line(0, 0, 40), -9);
        due.is("12 the least fall", x.line(0, 10, 1), 11);
        x.stone(6, 20, 0);
        due.is("12 at 300 just so", x.line(1, 10, 40), 300);
        due.is("12 at 300 not", x.line(1, 10, 41), -9);
        Due.waves(x, 10 - 5, -1);
        due.is("12 by the wave there", x.line(0, 5, 40), 50);
        due.is("12 a wave too high", x.line(0, 45, 40), -9);
        x.shift(1);
        due.is("12 shifted", x.line(0, 11, 40), 50);
        due.is("12 shifted below 1", x.line(0, 1, 40), -9);
        due.is("12 shifted to 44", x.line(0, 45, 99), 25);
        Due.law(x, "l1");
        due.is("12 by the law", x.line(0, 11, 40), 3);
        x.stone(1, 99, 0);
        due.is("12 the least speed", x.line(2, 11, 1), 1);
    }

    private static void lineRefusals() {
        SkipStones x = withStone();
        due.is("12 unknown", x.line(1, 99, 1), -1);
        due.is("12 unknown below", x.line(-1, 1, 1), -1);
        due.is("12 slant", x.line(0, 46, 1), -2);
        due.is("12 slant below", x.line(0, -1, 1), -2);
        due.is("12 fall", x.line(0, 1, 100), -2);
        due.is("12 fall below", x.line(0, 1, 0), -2);
        due.is("12 no throw is kept by it", x.many(1), 0);
    }

    private static void grids() {
        SkipStones x = withStone();
        due.is("14 as at first", x.grid(30, 60), 0);
        due.is("14 fall", x.grid(31, 60), 1);
        due.is("14 as it was", x.grid(31, 60), 0);
        due.is("14 spin", x.grid(31, 61), 1);
        due.is("14 least", x.grid(1, 0), 1);
        due.is("14 greatest", x.grid(99, 99), 1);
        int[][] outside = {{0, 5}, {100, 5}, {5, -1}, {5, 100}};
        for (int[] g : outside) {
            due.is("14 outside " + g[0] + "," + g[1], x.grid(g[0], g[1]), -2);
        }
        due.is("14 stays", x.grid(99, 99), 0);
    }

    private static void gridEdges() {
        SkipStones x = withStone();
        int[][] inside = {{1, 0, 0, 0}, {300, 0, 45, 0}, {280, 20, 35, 10}, {1, 20, 0, 10}};
        for (int[] g : inside) {
            due.is("13 inside " + g[0] + "," + g[1], x.best(0, g[0], g[1], g[2], g[3], 0, 1) > 0 ? 1 : 0, 1);
            due.is("15 inside " + g[0] + "," + g[1], x.odds(0, g[0], g[1], g[2], g[3], 0, 0, 0), 1);
            due.is("16 inside " + g[0] + "," + g[1],
                x.narrow(0, g[0], g[1], g[2], g[3], 0, 0), g[1] == 0 ? -9 : 0);
            due.is("19 inside " + g[0] + "," + g[1],
                x.there(0, g[0], g[1], g[2], g[3], 0, 99999), (g[1] + 1) * (g[3] + 1));
        }
        int max = Integer.MAX_VALUE;
        int[][] outside = {{0, 0, 5, 0}, {301, 0, 5, 0}, {281, 20, 5, 0}, {1, 21, 5, 0}, {9, -1, 5, 0},
            {9, 0, -1, 0}, {9, 0, 46, 0}, {9, 0, 36, 10}, {9, 0, 5, 11}, {9, 0, 5, -1},
            {max, 1, 5, 0}, {1, max, 5, 0}, {9, 0, max, 1}, {9, 0, 1, max}, {max, max, max, max},
            {Integer.MIN_VALUE, 0, 5, 0}, {9, Integer.MIN_VALUE, 5, 0}};
        Due.rings(x, 5);
        for (int[] g : outside) {
            String of = " outside " + g[0] + "," + g[1] + "," + g[2] + "," + g[3];
            due.is("13" + of, x.best(0, g[0], g[1], g[2], g[3], 0, 0), -2);
            due.is("15" + of, x.odds(0, g[0], g[1], g[2], g[3], 0, 0, 0), LOST);
            due.is("16" + of, x.narrow(0, g[0], g[1], g[2], g[3], 0, 0), -2);
            due.is("18" + of, x.read(0, g[0], g[1], g[2], g[3], 0), -2);
            due.is("19" + of, x.there(0, g[0], g[1], g[2], g[3], 0, 9), -2);
        }
        for (int j = -1; j <= 5; j += 6) {
            due.is("13 judge ahead of the grid", x.best(0, 0, 0, 5, 0, j, 0), -1);
            due.is("15 judge", x.odds(0, 9, 0, 5, 0, j, 0, 0), LOST);
            due.is("16 judge ahead of the grid", x.narrow(0, 0, 0, 5, 0, j, 0), -1);
        }
        for (int s = -1; s <= 1; s += 2) {
            due.is("13 stone ahead of the grid", x.best(s, 0, 0, 5, 0, 0, 0), -1);
            due.is("15 stone", x.odds(s, 9, 0, 5, 0, 0, 0, 0), LOST);
            due.is("16 stone ahead of the grid", x.narrow(s, 0, 0, 5, 0, 0, 0), -1);
        }
        due.is("13 what", x.best(0, 9, 0, 5, 0, 0, 3), -2);
        due.is("13 what below", x.best(0, 9, 0, 5, 0, 0, -1), -2);
        due.is("15 which", x.odds(0, 9, 0, 5, 0, 0, 0, 2), LOST);
        due.is("15 which below", x.odds(0, 9, 0, 5, 0, 0, 0, -1), LOST);
    }

    /** What a judge counts of a throw, by toss() and judge() of another object that is alike. */
    private static int tossed(SkipStones y, int speed, int slant, int j) {
        y.toss(0, speed, 25, slant, 70);
        return y.judge(j);
    }

    private static SkipStones wavy() {
        SkipStones x = new SkipStones();
        x.stone(2, 60, 1);
        Due.waves(x, 2, -4, 0, 5, -2);
        x.shift(3);
        x.grid(25, 70);
        return x;
    }

    private static void bestAgainstTosses() {
        SkipStones x = wavy();
        SkipStones y = wavy();
        for (int j = 0; j <= 4; j++) {
            int most = -1;
            int speed = 0;
            int slant = 0;
            for (int v = 100; v <= 120; v++) {
                for (int n = 3; n <= 13; n++) {
                    int many = tossed(y, v, n, j);
                    if (many > most) {
                        most = many;
                        speed = v;
                        slant = n;
                    }
                }
            }
            due.is("13 many by " + j, x.best(0, 100, 20, 3, 10, j, 0), most);
            due.is("13 speed by " + j, x.best(0, 100, 20, 3, 10, j, 1), speed);
            due.is("13 slant by " + j, x.best(0, 100, 20, 3, 10, j, 2), slant);
        }
        due.is("13 none of them is kept", x.many(1), 0);
    }

    private static void bestOfEquals() {
        SkipStones x = withStone();
        due.is("13 none goes: many", x.best(0, 5, 3, 0, 2, 0, 0), 0);
        due.is("13 none goes: the least speed", x.best(0, 5, 3, 0, 2, 0, 1), 5);
        due.is("13 none goes: the least slant", x.best(0, 5, 3, 0, 2, 0, 2), 0);
        // By ear even a sunk one counts 1.
        due.is("13 all are heard once", x.best(0, 5, 3, 0, 2, 3, 0), 1);
        x.grid(40, 99);
        // With a line of 50 at a slant of 10: of 49, 50 the second is the first that goes.
        due.is("13 the line", x.best(0, 48, 2, 10, 0, 0, 1), 50);
        due.is("13 fall and spin of the grid", x.best(0, 100, 0, 10, 0, 0, 0), 13);
        due.is("13 far", x.best(0, 100, 0, 10, 0, 4, 0), 385);
        x.grid(7, 99);
        due.is("13 another fall", x.best(0, 100, 0, 10, 0, 4, 0), 55);
        x.grid(7, 0);
        x.toss(0, 100, 7, 10, 0);
        due.is("13 another spin", x.best(0, 100, 0, 10, 0, 4, 0), x.judge(4));
        due.is("13 that is not as before", x.judge(4) == 55 ? 1 : 0, 0);
    }

    private static long common(long a, long b) {
        return b == 0 ? a : common(b, a % b);
    }

    private static int hits(SkipStones y, int dv, int dn, int j, int m) {
        int many = 0;
        for (int v = 100; v <= 100 + dv; v++) {
            for (int n = 3; n <= 3 + dn; n++) {
                many += tossed(y, v, n, j) >= m ? 1 : 0;
            }
        }
        return many;
    }

    private static void oddsAgainstTosses() {
        SkipStones x = wavy();
        SkipStones y = wavy();
        int[] asked = {0, 1, 3, 8, 12, 150, 250, Integer.MIN_VALUE, Integer.MAX_VALUE};
        for (int j = 0; j <= 4; j++) {
            for (int m : asked) {
                long hit = hits(y, 12, 7, j, m);
                long by = common(hit, 13 * 8);
                due.is("15 upper of " + m + " by " + j, x.odds(0, 100, 12, 3, 7, j, m, 0), hit / by);
                due.is("15 lower of " + m + " by " + j, x.odds(0, 100, 12, 3, 7, j, m, 1), 13 * 8 / by);
                long fewerSpeeds = (long) hits(y, 11, 7, j, m) * (13 * 7);
                long fewerSlants = (long) hits(y, 12, 6, j, m) * (12 * 8);
                due.is("16 of " + m + " by " + j, x.narrow(0, 100, 12, 3, 7, j, m), fewerSlants > fewerSpeeds ? 1 : 0);
            }
        }
        due.is("15 none of them is kept", x.many(1), 0);
    }

    private static void oddsOfAll() {
        SkipStones x = withStone();
        x.grid(40, 99);
        // Speeds 48 .. 53 at a slant of 10: 50 .. 53 go.
        due.is("15 4 of 6", x.odds(0, 48, 5, 10, 0, 0, 1, 0), 2);
        due.is("15 in least terms", x.odds(0, 48, 5, 10, 0, 0, 1, 1), 3);
        due.is("15 none", x.odds(0, 40, 5, 10, 0, 0, 1, 0), 0);
        due.is("15 none of 1", x.odds(0, 40, 5, 10, 0, 0, 1, 1), 1);
        due.is("15 all of 0 or more", x.odds(0, 40, 5, 10, 0, 0, 0, 0), 1);
        due.is("15 names no fault", x.fault(), 0);
    }

    private static void narrowed() {
        SkipStones x = withStone();
        x.grid(40, 99);
        due.is("16 both are 0", x.narrow(0, 50, 0, 10, 0, 0, 1), -9);
        due.is("16 no speeds", x.narrow(0, 50, 0, 10, 3, 0, 1), 1);
        due.is("16 no slants", x.narrow(0, 50, 4, 10, 0, 0, 1), 0);
        due.is("16 alike", x.narrow(0, 1, 3, 0, 3, 0, 1), 0);
        // Slants 9, 10 at 49, 50: just (50, 10) goes. Without the greatest speed none is left, nor without that slant.
        due.is("16 none left either way", x.narrow(0, 49, 1, 9, 1, 0, 1), 0);
        // By a wave of 1 a slant of 45 sinks, 44 does not.
        Due.waves(x, 1);
        due.is("16 the last slant sinks", x.narrow(0, 250, 1, 44, 1, 0, 1), 1);
        Due.waves(x, 0);
        // Speeds 50, 51, slants 9, 10: at 9 none goes, at 10 both do.
        due.is("16 the last slant goes", x.narrow(0, 50, 1, 9, 1, 0, 1), 0);
    }

    private static void ringsTaken() {
        SkipStones x = withStone();
        due.is("17 one", Due.rings(x, 1), 1);
        due.is("34 one", x.many(3), 1);
        int[] twenty = new int[20];
        java.util.Arrays.fill(twenty, Integer.MAX_VALUE);
        due.is("17 twenty", Due.rings(x, twenty), 20);
        due.is("34 twenty", x.many(3), 20);
        Due.write(x, 0, 0, 0, 9, 8, 0);
        due.is("17 from a place on", x.rings(0, 0, 1, 2), 2);
        due.is("34 two", x.many(3), 2);
        due.is("17 no fault", x.fault(), 0);
    }

    private static void ringsRefusals() {
        SkipStones x = withStone();
        Due.rings(x, 5, 6);
        due.is("17 unknown", x.rings(4, 3, 0, 1), -1);
        due.is("17 unknown below", x.rings(-1, 0, 0, 1), -1);
        due.is("17 lane", x.rings(3, 3, 0, 1), -2);
        due.is("17 lane below", x.rings(3, -1, 0, 1), -2);
        due.is("17 null", x.rings(0, 0, 0, -1), -11);
        due.is("17 its fault", x.fault(), 1);
        due.is("17 cast", x.rings(3, 0, 0, -1), -12);
        due.is("17 its fault", x.fault(), 2);
        due.is("17 size", x.rings(3, 2, 9, -1), -14);
        due.is("17 its fault", x.fault(), 4);
        due.is("17 index", x.rings(3, 2, 0, 3), -13);
        due.is("17 its fault", x.fault(), 3);
        due.is("17 index of none", x.rings(3, 2, 3, 0), -13);
        due.is("17 none", x.rings(3, 2, 2, 0), -2);
        due.is("17 outside is no fault", x.fault(), 0);
        due.is("17 twenty-one", x.sheet(0, 0, 21) - 1 + Due.rings(x, new int[] {1, 1, 1, 1, 1, 1, 1, 1, 1, 1, 1,
            1, 1, 1, 1, 1, 1, 1, 1, 1, 1}), -2);
        due.is("17 a place of 0", Due.rings(x, 5, 0), -2);
        due.is("17 a place below", Due.rings(x, -5, 5), -2);
        due.is("34 still two", x.many(3), 2);
        x.grid(40, 99);
        due.is("18 still the places 5, 6", x.read(0, 100, 0, 10, 0, 0), 0);
    }

    private static void readings() {
        SkipStones x = withStone();
        x.grid(40, 99);
        // toss(0, 100, 40, 10, 99) touches at 134, 222, 282 ..; it has 14 touches, the last one sunk at 385.
        Due.rings(x, 134, 222, 282);
        int many = 0;
        int speed = -9;
        int slant = -9;
        SkipStones y = withStone();
        for (int v = 90; v <= 110; v++) {
            for (int n = 6; n <= 16; n++) {
                y.toss(0, v, 40, n, 99);
                if (y.touch(1, 1) == 134 && y.touch(2, 1) == 222 && y.touch(3, 1) == 282) {
                    speed = many == 0 ? v : speed;
                    slant = many == 0 ? n : slant;
                    many++;
                }
            }
        }
        due.is("18 some", many > 0 ? 1 : 0, 1);
        due.is("18 many", x.read(0, 90, 20, 6, 10, 0), many);
        due.is("18 speed", x.read(0, 90, 20, 6, 10, 1), speed);
        due.is("18 slant", x.read(0, 90, 20, 6, 10, 2), slant);
        Due.rings(x, 134, 222, 283);
        due.is("18 none so", x.read(0, 90, 20, 6, 10, 0), 0);
        due.is("18 no speed", x.read(0, 90, 20, 6, 10, 1), -9);
        due.is("18 no slant", x.read(0, 90, 20, 6, 10, 2), -9);
        // toss(0, 100, 40, 21, 99) touches at 94 and 138, there it sinks.
        Due.rings(x, 94, 138);
        due.is("18 a sunk one, too", x.read(0, 100, 0, 21, 0, 0), 1);
        Due.rings(x, 94);
        due.is("18 whatever comes behind", x.read(0, 100, 0, 21, 0, 2), 21);
        Due.rings(x, 94, 138, 138);
        due.is("18 no touch is left for it", x.read(0, 100, 0, 21, 0, 0), 0);
        Due.rings(x, 94);
        due.is("18 one that sinks at once has none", x.read(0, 1, 0, 1, 0, 0), 0);
        due.is("18 none of them is kept", x.many(1), 0);
        // 50 at a slant of 10 loses 8, 51 at 11 loses 9: both fly 42*32/20 = 67; 51 at 10 flies 68, 50 at 11 65.
        Due.rings(x, 67);
        due.is("18 two of four", x.read(0, 50, 1, 10, 1, 0), 2);
        due.is("18 the first speed", x.read(0, 50, 1, 10, 1, 1), 50);
        due.is("18 its slant", x.read(0, 50, 1, 10, 1, 2), 10);
    }

    private static void readRefusals() {
        SkipStones x = withStone();
        due.is("18 unknown", x.read(1, 0, 0, 0, 0, 0), -1);
        due.is("18 outside ahead of state", x.read(0, 0, 0, 0, 0, 0), -2);
        due.is("18 what ahead of state", x.read(0, 1, 0, 0, 0, 3), -2);
        due.is("18 state", x.read(0, 1, 0, 0, 0, 0), -3);
        Due.rings(x, 1);
        due.is("18 what", x.read(0, 1, 0, 0, 0, 3), -2);
        due.is("18 what below", x.read(0, 1, 0, 0, 0, -1), -2);
        due.is("18 unknown below", x.read(-1, 1, 0, 0, 0, 0), -1);
        due.is("18 told now", x.read(0, 1, 0, 0, 0, 0), 0);
    }

    private static void thereAgainstTosses() {
        SkipStones x = wavy();
        SkipStones y = wavy();
        int[][] spans = {{0, 0}, {0, 99999}, {100, 200}, {200, 100}, {Integer.MIN_VALUE, Integer.MAX_VALUE},
            {-5, -1}, {tossed(y, 105, 7, 4), tossed(y, 105, 7, 4)}, {tossed(y, 105, 7, 4) + 1, 99999}};
        for (int[] s : spans) {
            int many = 0;
            for (int v = 100; v <= 112; v++) {
                for (int n = 3; n <= 12; n++) {
                    int far = tossed(y, v, n, 4);
                    many += far >= s[0] && far <= s[1] ? 1 : 0;
                }
            }
            due.is("19 from " + s[0] + " to " + s[1], x.there(0, 100, 12, 3, 9, s[0], s[1]), many);
        }
    }

    private static void thereRefusals() {
        SkipStones x = withStone();
        due.is("19 unknown", x.there(1, 0, 0, 0, 0, 0, 0), -1);
        due.is("19 unknown below", x.there(-1, 1, 0, 0, 0, 0, 0), -1);
        due.is("19 outside", x.there(0, 0, 0, 0, 0, 0, 0), -2);
        due.is("19 one that sinks ends at 0", x.there(0, 1, 0, 0, 0, 0, 0), 1);
        x.grid(40, 99);
        due.is("19 from and to are in it", x.there(0, 100, 0, 10, 0, 385, 385), 1);
        due.is("19 behind", x.there(0, 100, 0, 10, 0, 386, 999), 0);
        due.is("19 ahead", x.there(0, 100, 0, 10, 0, 0, 384), 0);
    }

    private static void shiftsForThrows() {
        SkipStones x = wavy();
        SkipStones y = wavy();
        for (int j = 0; j <= 4; j++) {
            for (int slant = 0; slant <= 20; slant += 4) {
                int most = -1;
                int best = 0;
                for (int by = 0; by < 5; by++) {
                    y.shift(by);
                    int many = tossed(y, 130, slant, j);
                    if (many > most) {
                        most = many;
                        best = by;
                    }
                }
                due.is("20 shift at " + slant + " by " + j, x.when(0, 130, slant, j, 0), best);
                due.is("20 many at " + slant + " by " + j, x.when(0, 130, slant, j, 1), most);
            }
        }
        due.is("20 shift stays", x.shift(3), 3);
        due.is("20 no throw is kept", x.many(1), 0);
        SkipStones z = withStone();
        z.grid(40, 99);
        z.shift(7);
        due.is("20 of one wave", z.when(0, 100, 10, 0, 0), 0);
        due.is("20 it counts", z.when(0, 100, 10, 0, 1), 13);
        Due.waves(z, -9, -9, 0, -9);
        due.is("20 the only one", z.when(0, 50, 10, 0, 0), 2);
        Due.waves(z, -9, -9, -9);
        due.is("20 none: the least", z.when(0, 50, 10, 0, 0), 0);
        due.is("20 none", z.when(0, 50, 10, 0, 1), 0);
    }

    private static void whenRefusals() {
        SkipStones x = withStone();
        due.is("20 unknown", x.when(1, 0, 0, 0, 0), -1);
        due.is("20 unknown below", x.when(-1, 1, 0, 0, 0), -1);
        due.is("20 judge ahead of speed", x.when(0, 0, 0, 5, 0), -1);
        due.is("20 judge below", x.when(0, 1, 0, -1, 0), -1);
        due.is("20 speed", x.when(0, 301, 0, 0, 0), -2);
        due.is("20 speed below", x.when(0, 0, 0, 0, 0), -2);
        due.is("20 slant", x.when(0, 1, 46, 0, 0), -2);
        due.is("20 slant below", x.when(0, 1, -1, 0, 0), -2);
        due.is("20 what", x.when(0, 1, 0, 0, 2), -2);
        due.is("20 what below", x.when(0, 1, 0, 0, -1), -2);
        due.is("20 greatest", x.when(0, 300, 45, 4, 0), 0);
        due.is("20 least", x.when(0, 1, 0, 0, 0), 0);
    }
}
