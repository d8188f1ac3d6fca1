/** Promises 21 to 23: stones on a beach, the mean of the best of some looks, how many looks are worth it. */
public final class BeachTest {
    private static final Due due = new Due("BeachTest");
    private static final long LOST = Long.MIN_VALUE;

    public static void main(String[] args) {
        lying();
        lyingRefusals();
        meansByDrawing();
        oneMean();
        greatestMean();
        meanRefusals();
        hoursByDrawing();
        hoursOfEquals();
        hoursRefusals();
        due.end();
    }

    private static SkipStones withBeach(int[][] manyAndWorth) {
        SkipStones x = new SkipStones();
        for (int s = 0; s < manyAndWorth.length; s++) {
            x.stone(1, 1, 1);
            x.beach(s, manyAndWorth[s][0], manyAndWorth[s][1]);
        }
        return x;
    }

    private static void lying() {
        SkipStones x = new SkipStones();
        x.stone(1, 1, 1);
        due.is("21 none, worth 0, as at first", x.beach(0, 0, 0), 0);
        due.is("21 greatest", x.beach(0, 9, 99), 1);
        due.is("21 it was so", x.beach(0, 9, 99), 0);
        due.is("21 fewer", x.beach(0, 8, 99), 1);
        due.is("21 worth less", x.beach(0, 8, 98), 1);
        due.is("21 none", x.beach(0, 0, 98), 1);
        due.is("21 none, worth 98", x.beach(0, 0, 98), 0);
        due.is("3 worth stays told", x.ofStone(0, 4), 98);
    }

    private static void lyingRefusals() {
        SkipStones x = new SkipStones();
        due.is("21 unknown", x.beach(0, 99, 0), -1);
        x.stone(1, 1, 1);
        due.is("21 unknown below", x.beach(-1, 1, 1), -1);
        int[][] outside = {{10, 0}, {-1, 0}, {0, 100}, {0, -1}, {Integer.MAX_VALUE, 0}, {0, Integer.MIN_VALUE}};
        for (int[] b : outside) {
            due.is("21 outside " + b[0] + "," + b[1], x.beach(0, b[0], b[1]), -2);
        }
        due.is("21 nothing is changed", x.beach(0, 0, 0), 0);
    }

    /** The sum of the best over all ways to draw n times more, drawn one by one. */
    private static long drawn(int[] lying, int n, int best) {
        if (n == 0) {
            return best;
        }
        long sum = 0;
        for (int worth : lying) {
            sum += drawn(lying, n - 1, Math.max(best, worth));
        }
        return sum;
    }

    private static long power(long base, int n) {
        return n == 0 ? 1 : base * power(base, n - 1);
    }

    private static long common(long a, long b) {
        return b == 0 ? a : common(b, a % b);
    }

    private static void meansByDrawing() {
        SkipStones x = withBeach(new int[][] {{2, 7}, {1, 0}, {3, 40}, {0, 99}, {1, 41}});
        int[] lying = {7, 7, 0, 40, 40, 40, 41};
        for (int n = 1; n <= 6; n++) {
            long upper = drawn(lying, n, 0);
            long lower = power(7, n);
            long by = common(upper, lower);
            due.is("22 upper of " + n, x.mean(n, 0), upper / by);
            due.is("22 lower of " + n, x.mean(n, 1), lower / by);
        }
    }

    private static void oneMean() {
        SkipStones x = withBeach(new int[][] {{1, 10}, {1, 20}});
        due.is("22 (10 and 20) by 2", x.mean(1, 0), 15);
        due.is("22 whole", x.mean(1, 1), 1);
        due.is("22 (10 and three times 20) by 4", x.mean(2, 0), 35);
        due.is("22 by 2", x.mean(2, 1), 2);
        x.beach(1, 0, 20);
        due.is("22 one stone, ever the same", x.mean(6, 0), 10);
        due.is("22 whole", x.mean(6, 1), 1);
        x.beach(0, 5, 0);
        due.is("22 all worth nothing", x.mean(3, 0), 0);
        due.is("22 nothing of 1", x.mean(3, 1), 1);
    }

    private static void greatestMean() {
        int[][] all = new int[8][];
        for (int s = 0; s < 8; s++) {
            all[s] = new int[] {9, s == 7 ? 99 : 98};
        }
        SkipStones x = withBeach(all);
        // 98 and the chance that one of six is of the last eighth.
        due.is("22 upper", x.mean(6, 0), 99L * 262144 - 117649);
        due.is("22 lower", x.mean(6, 1), 262144);
        due.is("23 it is not worth it", x.hours(1), 1);
        due.is("23 but for nothing", x.hours(0), 6);
    }

    private static void meanRefusals() {
        SkipStones x = withBeach(new int[][] {{1, 10}});
        due.is("22 none", x.mean(0, 0), LOST);
        due.is("22 seven", x.mean(7, 0), LOST);
        due.is("22 below", x.mean(-1, 0), LOST);
        due.is("22 which", x.mean(1, 2), LOST);
        due.is("22 which below", x.mean(1, -1), LOST);
        due.is("22 six", x.mean(6, 0), 10);
        x.beach(0, 0, 10);
        due.is("22 nothing lies there", x.mean(1, 0), LOST);
        due.is("22 no stones", new SkipStones().mean(1, 1), LOST);
        due.is("22 names no fault", x.fault(), 0);
    }

    private static void hoursByDrawing() {
        int[][] beach = {{2, 7}, {1, 0}, {3, 40}, {0, 99}, {1, 90}};
        int[] lying = {7, 7, 0, 40, 40, 40, 90};
        SkipStones x = withBeach(beach);
        for (int cost = 0; cost <= 99; cost++) {
            int best = 0;
            long most = 0;
            for (int n = 1; n <= 6; n++) {
                long left = drawn(lying, n, 0) * power(7, 6 - n) - n * cost * power(7, 6);
                if (best == 0 || left > most) {
                    best = n;
                    most = left;
                }
            }
            due.is("23 at a cost of " + cost, x.hours(cost), best);
        }
    }

    private static void hoursOfEquals() {
        SkipStones x = withBeach(new int[][] {{9, 50}});
        due.is("23 always the same, at no cost", x.hours(0), 1);
        SkipStones y = withBeach(new int[][] {{1, 0}, {1, 8}});
        // Means 4, 6, 7, 7.5 ..: with a cost of 2 once and twice are alike, with 1 twice and three times.
        due.is("23 alike at 2: the least", y.hours(2), 1);
        due.is("23 alike at 1: the least", y.hours(1), 2);
        due.is("23 at nothing", y.hours(0), 6);
        due.is("23 less than nothing is left", y.hours(99), 1);
    }

    private static void hoursRefusals() {
        SkipStones x = new SkipStones();
        due.is("23 outside ahead of state", x.hours(100), -2);
        due.is("23 outside below", x.hours(-1), -2);
        due.is("23 state", x.hours(0), -3);
        x.stone(1, 1, 1);
        x.beach(0, 0, 99);
        due.is("23 none lies there", x.hours(0), -3);
        x.beach(0, 1, 0);
        due.is("23 one does", x.hours(0), 1);
        due.is("23 outside", x.hours(100), -2);
    }
}
