/** Promises 9 to 11: throws, their touches, judges. */
public final class ThrowsTest {
    private static final Due due = new Due("ThrowsTest");
    private static final int SUNK = 0, CLEAN = 1, SKATING = 2, STEEP = 3;

    public static void main(String[] args) {
        oneThrow();
        sunkOnes();
        steepOnes();
        skatingOnes();
        wobbling();
        ninetyTouches();
        wavesOnTheWay();
        tossRefusals();
        touchRefusals();
        judges();
        farPlaces();
        judgeRefusals();
        due.end();
    }

    private static void touchIs(SkipStones x, int k, int... want) {
        for (int what = 0; what < want.length; what++) {
            due.is("10 touch(" + k + "," + what + ")", x.touch(k, what), want[what]);
        }
    }

    private static int kindAt(SkipStones x, int k) {
        return x.touch(k, 0);
    }

    private static void oneThrow() {
        SkipStones x = new SkipStones();
        x.stone(5, 40, 3);
        // 200*40*10/200 = 400 is not less than 5*(30+10); 200*(5+10+3)/100+1 = 37; 30*80/100 = 24; 163*24/20 = 195.
        due.is("9 toss", x.toss(0, 200, 30, 10, 50), 10);
        touchIs(x, 0, CLEAN, 0, 200, 30, 10, 50, 10, 37, 0);
        touchIs(x, 1, CLEAN, 195, 163, 24, 10, 44, 10, 30, 4);
        touchIs(x, 2, CLEAN, 321, 133, 19, 10, 39, 10, 24, 7);
        touchIs(x, 3, CLEAN, 402, 109, 15, 10, 35, 10, 20, 10);
        touchIs(x, 4, CLEAN, 455, 89, 12, 10, 31, 10, 17, 12);
        touchIs(x, 5, CLEAN, 487, 72, 9, 10, 27, 10, 13, 13);
        // 9*80/100 = 7 is above NEAR; the next, 7*80/100 = 5, is not.
        touchIs(x, 6, SKATING, 507, 59, 7, 10, 24, 10, 11, 14);
        // SPIN 21-3 = 18 is 2 less than needed: nothing of 5.
        touchIs(x, 7, SKATING, 519, 48, 5, 10, 21, 10, 9, 15);
        // 39*40*10/200 = 78 is not less than 5*(4+10) = 70.
        touchIs(x, 8, SKATING, 526, 39, 4, 10, 18, 10, 8, 15);
        // 31*40*10/200 = 62 is less than 5*(3+10) = 65; SPIN 18-2 = 16 was 4 less than needed: nothing of 5.
        touchIs(x, 9, SUNK, 530, 31, 3, 10, 16, 10, 0, 15);
    }

    private static void sunkOnes() {
        SkipStones x = new SkipStones();
        x.stone(1, 20, 0);
        due.is("9 just too slow", x.toss(0, 49, 40, 10, 99), 1);
        touchIs(x, 0, SUNK, 0, 49, 40, 10, 99, 10, 0, 0);
        x.toss(0, 50, 40, 10, 99);
        due.is("9 just fast enough", kindAt(x, 0), CLEAN);
        due.is("9 no tilt", x.toss(0, 300, 1, 0, 99), 1);
        touchIs(x, 0, SUNK, 0, 300, 1, 0, 99, 0, 0, 0);
        Due.waves(x, 1);
        x.toss(0, 300, 1, 0, 99);
        due.is("9 a tilt of 1", kindAt(x, 0), SKATING);
        due.is("10 slant and tilt", x.touch(0, 4) * 100 + x.touch(0, 6), 1);
        due.is("9 a tilt of 46", x.toss(0, 300, 1, 45, 99), 1);
        touchIs(x, 0, SUNK, 0, 300, 1, 45, 99, 46, 0, 0);
        x.toss(0, 300, 1, 44, 99);
        due.is("9 a tilt of 45", kindAt(x, 0), STEEP);
        Due.waves(x, -9);
        x.toss(0, 300, 1, 9, 99);
        due.is("9 a tilt of 0", kindAt(x, 0), SUNK);
        x.toss(0, 300, 1, 5, 99);
        touchIs(x, 0, SUNK, 0, 300, 1, 5, 99, -4, 0, 0);
        x.stone(99, 1, 0);
        Due.waves(x, 0);
        x.toss(1, 300, 99, 45, 99);
        due.is("9 heavy and narrow", kindAt(x, 0), SUNK);
        Due.law(x, "l1");
        x.toss(1, 300, 99, 45, 99);
        // 300*1*45/10 = 1350 is less than 99*109.
        due.is("9 too heavy still", kindAt(x, 0), SUNK);
        x.toss(1, 300, 3, 45, 99);
        // 1350 is not less than 99*13 = 1287.
        due.is("9 lifted", kindAt(x, 0), STEEP);
    }

    private static void steepOnes() {
        SkipStones x = new SkipStones();
        x.stone(1, 20, 2);
        x.toss(0, 100, 40, 20, 99);
        touchIs(x, 0, CLEAN, 0, 100, 40, 20, 99, 20, 28, 0);
        due.is("9 fall of a clean one", x.touch(1, 3), 32);
        x.toss(0, 100, 40, 21, 99);
        // 100*(5+21+2)/50+1 = 57; FALL stays: 43*40/20 = 86, 40/5 = 8.
        touchIs(x, 0, STEEP, 0, 100, 40, 21, 99, 21, 57, 0);
        touchIs(x, 1, STEEP, 86, 43, 40, 21, 89, 21, 25, 8);
        Due.law(x, "h9;r50;l1");
        due.is("9 the end, as no speed is left", x.toss(0, 100, 40, 45, 99), 1);
        // 100*(50+45+2)/50+1: more than there was.
        touchIs(x, 0, STEEP, 0, 100, 40, 45, 99, 45, 195, 0);
        due.is("11 it is counted", x.judge(0), 1);
        x.toss(0, 100, 40, 9, 99);
        due.is("9 at HARD it is clean", kindAt(x, 0), CLEAN);
        x.toss(0, 100, 40, 10, 99);
        due.is("9 above it steep", kindAt(x, 0), STEEP);
        x.toss(0, 100, 1, 10, 99);
        due.is("9 a near one above it is steep too", kindAt(x, 0), STEEP);
        due.is("9 just no speed left", x.toss(0, 1, 1, 9, 99), 1);
        due.is("10 all of it is taken", x.touch(0, 7), 1);
    }

    private static void skatingOnes() {
        SkipStones x = new SkipStones();
        x.stone(1, 20, 0);
        x.toss(0, 100, 8, 10, 99);
        due.is("9 8 becomes 6, that is near", kindAt(x, 0), SKATING);
        x.toss(0, 100, 9, 10, 99);
        due.is("9 9 becomes 7, that is not", kindAt(x, 0), CLEAN);
        due.is("9 what comes next", kindAt(x, 1), SKATING);
        Due.law(x, "u1;k0");
        x.toss(0, 200, 99, 10, 99);
        due.is("9 99 becomes 1, at least", kindAt(x, 0), CLEAN);
        due.is("9 1 at least", x.touch(1, 3), 1);
        due.is("9 and stays so", x.touch(2, 3), 1);
        due.is("10 beats of a fall of 1", x.touch(2, 8), 0);
        Due.law(x, "u1;k1");
        x.toss(0, 200, 99, 10, 99);
        due.is("9 1 is near now", kindAt(x, 0), SKATING);
        Due.law(x, "u99;k50");
        x.toss(0, 300, 51, 10, 99);
        due.is("9 51 becomes 50", kindAt(x, 0), SKATING);
        x.toss(0, 300, 52, 10, 99);
        due.is("9 52 becomes 51", kindAt(x, 0), CLEAN);
    }

    private static void wobbling() {
        SkipStones x = new SkipStones();
        x.stone(1, 50, 0);
        x.toss(0, 300, 30, 9, 0);
        due.is("10 spin is 0 at least", x.touch(1, 5), 0);
        due.is("9 20 too few: 4 more", x.touch(1, 4), 13);
        due.is("9 each time", x.touch(2, 4), 17);
        x.toss(0, 300, 30, 9, 23);
        // 23-3 = 20 is not less than 20; 20-3 = 17: 3/5 is 0; 17-2 = 15: 5/5 is 1.
        due.is("10 23 becomes 20", x.touch(1, 5), 20);
        due.is("9 none is too few", x.touch(1, 4), 9);
        due.is("10 20 becomes 17", x.touch(2, 5), 17);
        due.is("9 3 too few are nothing", x.touch(2, 4), 9);
        due.is("10 17 becomes 15", x.touch(3, 5), 15);
        due.is("9 5 too few are 1", x.touch(3, 4), 10);
        Due.law(x, "s99;h5");
        x.toss(0, 300, 30, 9, 99);
        due.is("9 behind a steep one, too", x.touch(1, 4), 11);
        due.is("10 99 becomes 89", x.touch(1, 5), 89);
        Due.law(x, "s0");
        x.toss(0, 300, 30, 9, 1);
        due.is("10 1 becomes 0", x.touch(1, 5), 0);
        due.is("9 none is needed", x.touch(2, 4), 9);
    }

    private static void ninetyTouches() {
        SkipStones x = new SkipStones();
        x.stone(1, 99, 0);
        Due.law(x, "r0;s0;l1");
        due.is("9 ninety at most", x.toss(0, 300, 99, 1, 99), 90);
        due.is("34 so many", x.many(1), 90);
        due.is("9 the last one goes off", kindAt(x, 89), SKATING);
        due.is("9 and there is speed", x.touch(89, 2) > x.touch(89, 7) ? 1 : 0, 1);
        due.is("10 none behind", x.touch(90, 0), -1);
        due.is("11 all count", x.judge(0), 90);
        due.is("9 fewer in their place", x.toss(0, 300, 99, 0, 99), 1);
        due.is("10 the others are gone", x.touch(1, 0), -1);
    }

    private static void wavesOnTheWay() {
        SkipStones x = new SkipStones();
        x.stone(1, 20, 0);
        Due.waves(x, 0, 2, -3);
        x.toss(0, 100, 40, 10, 99);
        // X 134 left over by 3: 2, so the second comes at a wave of -3.
        touchIs(x, 1, CLEAN, 134, 84, 32, 10, 89, 7, 11, 6);
        x.shift(2);
        x.toss(0, 100, 40, 10, 99);
        // The first is by -3 now: 100*(5+7)/100+1 = 13, X 87*32/20 = 139, (139 and 2) by 3 leave 0.
        touchIs(x, 0, CLEAN, 0, 100, 40, 10, 99, 7, 13, 0);
        touchIs(x, 1, CLEAN, 139, 87, 32, 10, 89, 10, 14, 6);
        due.is("11 a kept throw stays as it was", x.shift(0), 2);
        due.is("10 so its tilt", x.touch(0, 6), 7);
        // A slant above 45 still goes by a wave that is low enough.
        Due.law(x, "s99;l1");
        Due.waves(x, -9);
        x.toss(0, 300, 40, 45, 0);
        due.is("10 slant grows", x.touch(1, 4), 64);
        due.is("10 so it sinks", kindAt(x, 1), SUNK);
        Due.law(x, "s40;l1");
        x.toss(0, 300, 40, 45, 9);
        // 9-1 = 8: (40-8)/5 = 6: 51-9 = 42 goes.
        due.is("10 slant above 45", x.touch(1, 4), 51);
        due.is("10 goes by the wave", kindAt(x, 1), STEEP);
    }

    private static void tossRefusals() {
        SkipStones x = new SkipStones();
        x.stone(1, 20, 0);
        x.toss(0, 100, 40, 10, 99);
        due.is("9 unknown", x.toss(1, 0, 40, 10, 99), -1);
        due.is("9 unknown below", x.toss(-1, 100, 40, 10, 99), -1);
        int[][] outside = {{0, 40, 10, 99}, {301, 40, 10, 99}, {100, 0, 10, 99}, {100, 100, 10, 99},
            {100, 40, -1, 99}, {100, 40, 46, 99}, {100, 40, 10, -1}, {100, 40, 10, 100}};
        for (int[] t : outside) {
            due.is("9 outside " + t[0] + "," + t[1] + "," + t[2] + "," + t[3], x.toss(0, t[0], t[1], t[2], t[3]), -2);
        }
        due.is("9 the throw is kept", x.many(1), 14);
        due.is("9 the least of all", x.toss(0, 1, 1, 0, 0), 1);
        // 300*(5+45+0)/50+1 = 301: all of it is lost at once.
        due.is("9 the greatest of all", x.toss(0, 300, 99, 45, 99), 1);
    }

    private static void touchRefusals() {
        SkipStones x = new SkipStones();
        x.stone(1, 20, 0);
        due.is("10 none is kept", x.touch(0, 0), -1);
        x.toss(0, 49, 40, 10, 99);
        due.is("10 unknown", x.touch(1, 9), -1);
        due.is("10 unknown below", x.touch(-1, 0), -1);
        due.is("10 greatest int", x.touch(Integer.MAX_VALUE, 0), -1);
        due.is("10 outside", x.touch(0, 9), -2);
        due.is("10 outside below", x.touch(0, -1), -2);
        due.is("10 least int", x.touch(0, Integer.MIN_VALUE), -2);
    }

    private static void judges() {
        SkipStones x = new SkipStones();
        x.stone(5, 40, 3);
        x.toss(0, 200, 30, 10, 50);
        // As oneThrow() tells: six clean, three skating, one sunk; beats 0 4 7 10 12 13 14 15 15 15.
        due.is("11 all but sunk", x.judge(0), 9);
        due.is("11 clean ones", x.judge(1), 6);
        due.is("11 by places", x.judge(2), 9);
        due.is("11 by ear", x.judge(3), 5);
        due.is("11 far", x.judge(4), 530);
        x.stone(1, 20, 0);
        x.toss(1, 49, 40, 10, 99);
        due.is("11 a sunk one", x.judge(0), 0);
        due.is("11 a sunk one", x.judge(1), 0);
        due.is("11 a sunk one", x.judge(2), 0);
        due.is("11 a sunk one is heard", x.judge(3), 1);
        due.is("11 a sunk one's place", x.judge(4), 0);
        x.toss(1, 100, 40, 21, 99);
        due.is("11 steep ones", x.judge(1), 2);
        due.is("11 a late sunk one is heard, too", x.judge(3), 3);
    }

    private static void farPlaces() {
        SkipStones x = new SkipStones();
        x.stone(1, 99, 0);
        Due.law(x, "r0;s0;l1;u99;h45");
        // FALL 1 stays: SPEED 60 59 .. 1 with 1 off at each, so X goes by 2 as long as 40 or more are left, then by 1.
        due.is("9 sixty", x.toss(0, 60, 1, 1, 99), 60);
        due.is("10 X by 2", x.touch(1, 1), 2);
        due.is("10 X by 2", x.touch(20, 1), 40);
        due.is("10 X by 1", x.touch(40, 1), 60);
        due.is("10 X stays", x.touch(59, 1), 60);
        // Counted last: 0 4 8 .. 40, then 43 46 .. 58.
        due.is("11 those 3 behind the one counted last", x.judge(2), 17);
        due.is("11 none is 2 beats behind", x.judge(3), 1);
        due.is("11 all skate", x.judge(1), 0);
        due.is("11 far", x.judge(4), 60);
        x.toss(0, 60, 11, 1, 99);
        // FALLS 11 10 9 ..: 10 and then 9 behind the first two touches: 2 beats and 1.
        due.is("10 beats", x.touch(1, 8), 2);
        due.is("10 beats", x.touch(2, 8), 3);
        due.is("11 2 beats behind are heard, less are not", x.judge(3), 2);
    }

    private static void judgeRefusals() {
        SkipStones x = new SkipStones();
        due.is("11 unknown", x.judge(5), -1);
        due.is("11 unknown below", x.judge(-1), -1);
        for (int j = 0; j < 5; j++) {
            due.is("11 none is kept", x.judge(j), -3);
        }
        x.stone(1, 1, 1);
        x.best(0, 100, 0, 10, 0, 0, 0);
        due.is("11 throws that are tried out are not kept", x.judge(0), -3);
        x.toss(0, 1, 1, 0, 0);
        due.is("11 unknown", x.judge(5), -1);
        due.is("11 kept", x.judge(0), 0);
    }
}
