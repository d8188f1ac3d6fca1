/** Promises 29 to 32: what touches tell, how they are heard, as what they are taken, the trace of it. */
public final class TellingTest {
    private static final Due due = new Due("TellingTest");

    public static void main(String[] args) {
        telling();
        hearing();
        tracing();
        kinds();
        refusals();
        due.end();
    }

    /** A throw with a clean one, a skating one (at 507) and a sunk one (at 530), as ThrowsTest tells it. */
    private static SkipStones thrown() {
        SkipStones x = new SkipStones();
        x.stone(5, 40, 3);
        x.toss(0, 200, 30, 10, 50);
        return x;
    }

    private static SkipStones steepOnes() {
        SkipStones x = new SkipStones();
        x.stone(1, 20, 0);
        x.toss(0, 100, 40, 21, 99);
        return x;
    }

    private static void telling() {
        SkipStones x = thrown();
        due.is("29 clean", x.tell(1), 195 + 1000);
        due.is("32 2, 1", x.trace(), 2 * 31 + 1);
        x = thrown();
        due.is("29 skating", x.tell(6), 507 + 1000 + 507);
        due.is("32 3, 2, 1, 1", x.trace(), ((3 * 31 + 2) * 31 + 1) * 31 + 1);
        x = thrown();
        due.is("29 sunk", x.tell(9), 530);
        due.is("32 1", x.trace(), 1);
        x = steepOnes();
        due.is("29 steep", x.tell(1), 94 + 1000 + 5000);
        due.is("32 6, 2, 1", x.trace(), (6 * 31 + 2) * 31 + 1);
    }

    private static void hearing() {
        SkipStones x = thrown();
        due.is("30 clean", x.hear(3), 3);
        due.is("32 4", x.trace(), 4);
        due.is("30 skating", x.hear(6), 60);
        due.is("32 4, 5", x.trace(), 4 * 31 + 5);
        due.is("30 sunk", x.hear(9), 9);
        due.is("32 4, 5, 4", x.trace(), (4 * 31 + 5) * 31 + 4);
        x = steepOnes();
        due.is("30 steep", x.hear(1), 1);
        due.is("32 4", x.trace(), 4);
    }

    private static void tracing() {
        SkipStones x = thrown();
        due.is("32 at first", x.trace(), 0);
        int want = 0;
        for (int t = 0; t < 20; t++) {
            x.hear(0);
            want = 31 * want + 4;
            due.is("32 it wraps", x.trace(), want);
        }
        x.tell(99);
        x.hear(-1);
        x.as(0, 3);
        due.is("32 no body of these begins", x.trace(), want);
        due.is("32 told twice", x.trace(), want);
        x.toss(0, 300, 30, 10, 50);
        due.is("32 stays with another throw", x.trace(), want);
    }

    private static void kinds() {
        SkipStones x = thrown();
        // Touches 1 clean, 6 skating, 9 sunk.
        int[] k = {9, 1, 6};
        long[][] want = {{1, -12, -12, -12}, {1, 1, -12, -12}, {1, 1, 1, -12}};
        for (int t = 0; t < k.length; t++) {
            for (int kind = 0; kind < 4; kind++) {
                due.is("31 as(" + k[t] + "," + kind + ")", x.as(k[t], kind), want[t][kind]);
                due.is("33 fault", x.fault(), want[t][kind] == 1 ? 0 : 2);
            }
        }
        x = steepOnes();
        long[] steep = {1, 1, -12, 1};
        for (int kind = 0; kind < 4; kind++) {
            due.is("31 as(0," + kind + ")", x.as(0, kind), steep[kind]);
        }
    }

    private static void refusals() {
        SkipStones x = thrown();
        int[] unknown = {10, -1, Integer.MAX_VALUE, Integer.MIN_VALUE};
        for (int k : unknown) {
            due.is("29 unknown " + k, x.tell(k), -1);
            due.is("30 unknown " + k, x.hear(k), -1);
            due.is("31 unknown " + k, x.as(k, 9), -1);
        }
        x.as(0, 3);
        due.is("31 outside", x.as(0, 4), -2);
        due.is("33 wiped", x.fault(), 0);
        x.as(0, 3);
        due.is("31 unknown", x.as(10, 0), -1);
        due.is("33 wiped", x.fault(), 0);
        due.is("31 outside below", x.as(0, -1), -2);
        SkipStones none = new SkipStones();
        due.is("29 none is kept", none.tell(0), -1);
        due.is("30 none is kept", none.hear(0), -1);
        due.is("31 none is kept", none.as(0, 0), -1);
    }
}
