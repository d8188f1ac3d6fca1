/** Runs of 512 calls, drawn by a counted rule, on the program and on the model: each answer must be the same. */
public final class ModelTest {
    private static final Due due = new Due("ModelTest");
    private static final int RUNS = 4000;
    // What an object answers behind its 512th call is free.
    private static final int CALLS = 512;

    private long seed;
    private int calls = 0;
    private SkipStones x;
    private Model m;

    public static void main(String[] args) {
        for (int run = 0; run < RUNS; run++) {
            new ModelTest().run(run);
        }
        due.end();
    }

    private void run(int number) {
        seed = 1000003L * number + 17;
        x = new SkipStones();
        m = new Model();
        while (calls < CALLS) {
            one(number + "/" + calls + " ", below(40));
        }
    }

    /** The next number of a row that looks drawn, but is the same each time. */
    private int below(int bound) {
        seed = seed * 6364136223846793005L + 1442695040888963407L;
        return (int) ((seed >>> 33) % bound);
    }

    /** Mostly a number from least to greatest, at times one just outside or far out. */
    private int about(int least, int greatest) {
        switch (below(60)) {
            case 0: return least - 1;
            case 1: return greatest + 1;
            case 2: return below(2) == 0 ? Integer.MIN_VALUE : Integer.MAX_VALUE;
            case 3, 4: return least;
            case 5, 6: return greatest;
            default: return least + below(greatest - least + 1);
        }
    }

    private int lane() {
        return about(0, 2);
    }

    private int stone() {
        return below(12) == 0 ? about(0, 8) : below((int) Math.max(1, m.many(0)));
    }

    private int touch() {
        return below(12) == 0 ? about(0, 90) : below((int) Math.max(1, m.many(1)));
    }

    private void is(String call, long got, long want) {
        calls++;
        if (calls <= CALLS) {
            due.is(call, got, want);
        }
    }

    private void write(String at, int k, int lane, int[] numbers) {
        is(at + "sheet", x.sheet(k, lane, numbers.length), m.sheet(k, lane, numbers.length));
        for (int i = 0; i < numbers.length; i++) {
            is(at + "put", x.put(k, i, numbers[i]), m.put(k, i, numbers[i]));
        }
    }

    /** Numbers, written on a sheet, and then most often taken as they were written. */
    private int[] written(String at, int[] numbers) {
        int k = below(4);
        int lane = below(3);
        write(at, k, lane, numbers);
        int[] args = {k, lane, 0, numbers.length};
        if (below(6) == 0) {
            args = new int[] {about(0, 3), lane(), about(0, numbers.length), about(0, numbers.length)};
        }
        return args;
    }

    private int[] text() {
        String letters = "lruskh";
        StringBuilder text = new StringBuilder();
        int items = 1 + below(below(5) == 0 ? 7 : 4);
        int from = below(6);
        for (int i = 0; i < items; i++) {
            text.append(i == 0 ? "" : ";").append(letters.charAt((from + i * 5) % 6));
            text.append(below(6) == 0 ? below(10) : below(8) == 0 ? below(100) : 1 + below(45));
        }
        if (below(5) == 0) {
            String signs = "lruskh;0123456789x";
            text.insert(below(text.length() + 1), signs.charAt(below(signs.length())));
        }
        if (below(12) == 0) {
            text.setLength(below(text.length() + 1));
        }
        int[] codes = new int[Math.min(60, text.length())];
        for (int i = 0; i < codes.length; i++) {
            codes[i] = text.charAt(i);
        }
        return codes;
    }

    private int[] waveRow() {
        int[] row = new int[below(15) == 0 ? 20 + below(2) : 1 + below(6)];
        int high = 1 + below(9);
        for (int i = 0; i < row.length; i++) {
            row[i] = below(150) == 0 ? about(-9, 9) : below(2 * high + 1) - high;
        }
        return row;
    }

    /** The places of the kept throw, or of one of the grids, at times a little off. */
    private int[] ringRow() {
        int many = (int) Math.min(1 + below(4), Math.max(0, m.many(1) - 1));
        int[] row = new int[many];
        for (int i = 0; i < many; i++) {
            row[i] = (int) m.touch(i + 1, 1) + (below(20) == 0 ? below(3) - 1 : 0);
        }
        return row;
    }

    private void one(String at, int which) {
        if (which < 12) {
            waters(at, which);
        } else if (which < 20) {
            throwsAndBeaches(at, which);
        } else if (which < 29) {
            grids(at, which);
        } else {
            sheets(at, which);
        }
        is(at + "fault of " + which, x.fault(), m.fault());
        is(at + "trace of " + which, x.trace(), m.trace());
    }

    private void waters(String at, int which) {
        int a;
        int b;
        int c;
        int[] w;
        switch (which) {
            case 0, 1:
                a = below(3) == 0 ? about(1, 99) : 1 + below(5);
                b = about(1, 99);
                c = about(0, 9);
                is(at + "stone", x.stone(a, b, c), m.stone(a, b, c));
                break;
            case 2:
                a = stone();
                b = about(0, 4);
                is(at + "ofStone", x.ofStone(a, b), m.ofStone(a, b));
                break;
            case 3:
                w = written(at, text());
                is(at + "law", x.law(w[0], w[1], w[2], w[3]), m.law(w[0], w[1], w[2], w[3]));
                break;
            case 4:
                a = about(0, 5);
                is(at + "rule", x.rule(a), m.rule(a));
                break;
            case 5:
                w = written(at, waveRow());
                is(at + "waves", x.waves(w[0], w[1], w[2], w[3]), m.waves(w[0], w[1], w[2], w[3]));
                break;
            case 6:
                a = about(0, 19);
                is(at + "shift", x.shift(a), m.shift(a));
                break;
            case 7:
                a = about(0, 99999);
                is(at + "wave", x.wave(a), m.wave(a));
                break;
            case 8:
                w = written(at, ringRow());
                is(at + "rings", x.rings(w[0], w[1], w[2], w[3]), m.rings(w[0], w[1], w[2], w[3]));
                break;
            case 9, 10:
                a = about(0, 4);
                is(at + "judge", x.judge(a), m.judge(a));
                break;
            default:
                a = about(0, 3);
                is(at + "many", x.many(a), m.many(a));
        }
    }

    private void throwsAndBeaches(String at, int which) {
        int a = stone();
        int b = about(1, 300);
        int c = about(1, 99);
        int d = about(0, below(2) == 0 ? 20 : 45);
        int e = about(0, 99);
        switch (which) {
            case 12, 13, 14:
                is(at + "toss", x.toss(a, b, c, d, e), m.toss(a, b, c, d, e));
                allTouches(at);
                break;
            case 15:
                a = touch();
                b = about(0, 8);
                is(at + "touch", x.touch(a, b), m.touch(a, b));
                break;
            case 16:
                is(at + "line", x.line(a, d, c), m.line(a, d, c));
                break;
            case 17:
                b = about(0, 9);
                is(at + "beach", x.beach(a, b, e), m.beach(a, b, e));
                break;
            case 18:
                a = about(1, 6);
                b = about(0, 1);
                is(at + "mean", x.mean(a, b), m.mean(a, b));
                break;
            default:
                a = below(2) == 0 ? below(12) : about(0, 99);
                is(at + "hours", x.hours(a), m.hours(a));
        }
    }

    private void allTouches(String at) {
        int from = below((int) m.many(1) + 1);
        for (int k = from; k < Math.min(from + 3, m.many(1)); k++) {
            for (int what = 0; what < 9; what++) {
                is(at + "touch " + k + "," + what, x.touch(k, what), m.touch(k, what));
            }
        }
        for (int j = 0; j < 5; j++) {
            is(at + "judge " + j, x.judge(j), m.judge(j));
        }
    }

    private void grids(String at, int which) {
        int s = stone();
        int v = about(1, 280);
        int dv = about(0, 20);
        int n = about(0, 35);
        int dn = about(0, 10);
        int j = about(0, 4);
        int w = about(0, 2);
        int a = j == 4 ? below(400) : below(12) - 1;
        switch (which) {
            case 20:
                is(at + "best", x.best(s, v, dv, n, dn, j, w), m.best(s, v, dv, n, dn, j, w));
                break;
            case 21:
                v = about(1, 99);
                w = about(0, 99);
                is(at + "grid", x.grid(v, w), m.grid(v, w));
                break;
            case 22:
                w = about(0, 1);
                is(at + "odds", x.odds(s, v, dv, n, dn, j, a, w), m.odds(s, v, dv, n, dn, j, a, w));
                break;
            case 23, 24:
                is(at + "narrow", x.narrow(s, v, dv, n, dn, j, a), m.narrow(s, v, dv, n, dn, j, a));
                break;
            case 25:
                is(at + "read", x.read(s, v, dv, n, dn, w), m.read(s, v, dv, n, dn, w));
                break;
            case 26:
                readBack(at, s, w);
                break;
            case 27:
                a = about(0, 300);
                w = about(0, 600);
                is(at + "there", x.there(s, v, dv, n, dn, a, w), m.there(s, v, dv, n, dn, a, w));
                break;
            default:
                w = about(0, 1);
                is(at + "when", x.when(s, v, n, j, w), m.when(s, v, n, j, w));
        }
    }

    /** A throw of a grid is tossed, its places are told as rings, and read in that grid. */
    private void readBack(String at, int s, int w) {
        int v = 1 + below(280);
        int n = below(36);
        int fall = 1 + below(99);
        int spin = below(100);
        is(at + "grid", x.grid(fall, spin), m.grid(fall, spin));
        is(at + "toss", x.toss(s, v + 10, fall, n + 5, spin), m.toss(s, v + 10, fall, n + 5, spin));
        int[] row = ringRow();
        write(at, 0, 2, row);
        is(at + "rings", x.rings(0, 2, 0, row.length), m.rings(0, 2, 0, row.length));
        is(at + "read", x.read(s, v, 20, n, 10, w), m.read(s, v, 20, n, 10, w));
    }

    private void sheets(String at, int which) {
        int k = about(0, 3);
        int i = below(3) == 0 ? about(0, 60) : below(8);
        int other = about(0, 3);
        int j = below(3) == 0 ? about(0, 60) : below(8);
        int n = below(3) == 0 ? about(0, 60) : below(6);
        int v = below(2) == 0 ? about(-9, 9) : (int) (seed >>> 20);
        int lane = lane();
        switch (which) {
            case 29, 30:
                is(at + "sheet", x.sheet(k, lane, n), m.sheet(k, lane, n));
                break;
            case 31:
                is(at + "lose", x.lose(k), m.lose(k));
                break;
            case 32, 33:
                is(at + "put", x.put(k, i, v), m.put(k, i, v));
                break;
            case 34:
                is(at + "cell", x.cell(k, i, lane), m.cell(k, i, lane));
                break;
            case 35, 36:
                is(at + "copy", x.copy(k, i, other, j, n), m.copy(k, i, other, j, n));
                allCells(at);
                break;
            case 37:
                k = touch();
                is(at + "tell", x.tell(k), m.tell(k));
                break;
            case 38:
                k = touch();
                is(at + "hear", x.hear(k), m.hear(k));
                break;
            default:
                k = touch();
                n = about(0, 3);
                is(at + "as", x.as(k, n), m.as(k, n));
        }
    }

    private void allCells(String at) {
        is(at + "fault", x.fault(), m.fault());
        int k = below(4);
        for (int lane = 0; lane < 3; lane++) {
            for (int i = 0; i < 8; i++) {
                is(at + "cell " + k + "," + i + "," + lane, x.cell(k, i, lane), m.cell(k, i, lane));
            }
        }
    }
}
