import java.math.BigInteger;
import java.util.ArrayList;
import java.util.Comparator;
import java.util.List;
import java.util.regex.Matcher;
import java.util.regex.Pattern;

/**
 * The document told once more, in another way and with all of Java: touches are objects of classes, faults are those
 * that the machine itself has, shares are of big numbers. ModelTest compares the program with it.
 */
final class Model {
    private static final long LOST = Long.MIN_VALUE;

    private static final class Refusal extends RuntimeException {
        private static final long serialVersionUID = 1;
        final int answer;

        Refusal(int answer) {
            super(null, null, false, false);
            this.answer = answer;
        }
    }

    private interface Heard {
        default int heard(Model m, int number) {
            m.begins(4);
            return number;
        }
    }

    private static class Touch implements Heard {
        final int[] told;

        Touch(int[] told) {
            this.told = told;
        }

        final int sunkTells(Model m) {
            m.begins(1);
            return told[1];
        }

        int tells(Model m) {
            return sunkTells(m);
        }
    }

    private static class Clean extends Touch {
        Clean(int[] told) {
            super(told);
        }

        @Override
        int tells(Model m) {
            m.begins(2);
            return super.tells(m) + 1000;
        }
    }

    private static final class Skating extends Clean {
        Skating(int[] told) {
            super(told);
        }

        @Override
        int tells(Model m) {
            m.begins(3);
            int clean = super.tells(m);
            return clean + sunkTells(m);
        }

        @Override
        public int heard(Model m, int number) {
            m.begins(5);
            return 60;
        }
    }

    private static final class Steep extends Clean {
        Steep(int[] told) {
            super(told);
        }

        @Override
        int tells(Model m) {
            m.begins(6);
            return super.tells(m) + 5000;
        }
    }

    private record Stone(int weight, int wide, int rough) {
    }

    private record Thrown(int speed, int slant, List<Touch> touches) {
    }

    private final List<Stone> stones = new ArrayList<>();
    private final List<int[]> lying = new ArrayList<>();
    private int lift = 20;
    private int rub = 5;
    private int up = 80;
    private int needed = 20;
    private int near = 6;
    private int hard = 20;
    private List<Integer> waves = List.of(0);
    private int shift = 0;
    private List<Touch> kept = List.of();
    private int gridFall = 30;
    private int gridSpin = 60;
    private List<Integer> rings = List.of();
    private final Object[] sheets = new Object[4];
    private int trace = 0;
    private int fault = 0;

    private void begins(int body) {
        trace = trace * 31 + body;
    }

    private static void need(boolean holds, int refusal) {
        if (!holds) {
            throw new Refusal(refusal);
        }
    }

    private interface Call {
        long run();
    }

    private static long plain(Call call) {
        try {
            return call.run();
        } catch (Refusal r) {
            return r.answer;
        }
    }

    private static long longPlain(Call call) {
        try {
            return call.run();
        } catch (Refusal r) {
            return LOST;
        }
    }

    /** A call that names faults: those that the machine comes to are its answer. */
    private long faulty(Call call, boolean isLong) {
        fault = 0;
        try {
            return call.run();
        } catch (Refusal r) {
            return isLong ? LOST : r.answer;
        } catch (NullPointerException e) {
            fault = 1;
        } catch (ClassCastException | ArrayStoreException e) {
            fault = 2;
        } catch (IndexOutOfBoundsException e) {
            fault = 3;
        } catch (NegativeArraySizeException e) {
            fault = 4;
        }
        return isLong ? LOST : -10 - fault;
    }

    private Stone stoneOf(int x) {
        need(x >= 0 && x < stones.size(), -1);
        return stones.get(x);
    }

    private static void in(int number, int least, int greatest) {
        need(number >= least && number <= greatest, -2);
    }

    // ---- rows of sheets as the machine has them

    private static int at(Object row, int i) {
        return row instanceof byte[] b ? b[i] : row instanceof short[] s ? s[i] : ((int[]) row)[i];
    }

    private static int lengthAs(Object row, int lane) {
        switch (lane) {
            case 0: return ((byte[]) row).length;
            case 1: return ((short[]) row).length;
            default: return ((int[]) row).length;
        }
    }

    private int[] cells(int k, int lane, int i, int n) {
        need(k >= 0 && k < 4, -1);
        in(lane, 0, 2);
        int length = lengthAs(sheets[k], lane);
        int[] taken = new int[n < 0 ? n : Math.min(n, 1000)];
        if (i < 0 || i > length || (long) i + n > length) {
            throw new IndexOutOfBoundsException();
        }
        for (int c = 0; c < n; c++) {
            taken[c] = at(sheets[k], i + c);
        }
        return taken;
    }

    // ---- 1

    long stone(int weight, int wide, int rough) {
        return plain(() -> {
            in(weight, 1, 99);
            in(wide, 1, 99);
            in(rough, 0, 9);
            need(stones.size() < 8, -4);
            stones.add(new Stone(weight, wide, rough));
            lying.add(new int[2]);
            return stones.size() - 1;
        });
    }

    long ofStone(int x, int what) {
        return plain(() -> {
            Stone s = stoneOf(x);
            in(what, 0, 4);
            int[] all = {s.weight, s.wide, s.rough, lying.get(x)[0], lying.get(x)[1]};
            return all[what];
        });
    }

    private static final Pattern ITEM = Pattern.compile("([lruskh])([0-9][0-9]?)");

    private static boolean asTold(char letter, int number) {
        switch (letter) {
            case 'l', 'u': return number >= 1;
            case 'r', 'k': return number <= 50;
            case 'h': return number >= 1 && number <= 45;
            default: return true;
        }
    }

    long law(int k, int lane, int i, int n) {
        return faulty(() -> {
            int[] codes = cells(k, lane, i, n);
            StringBuilder text = new StringBuilder();
            for (int code : codes) {
                text.append(code >= 0 && code < 128 ? (char) code : '?');
            }
            return lawBy(text.toString());
        }, false);
    }

    private long lawBy(String text) {
        StringBuilder seen = new StringBuilder();
        int[] law = {20, 5, 80, 20, 6, 20};
        int at = 0;
        while (true) {
            if (at == text.length() || "lruskh".indexOf(text.charAt(at)) < 0 || seen.indexOf("" + text.charAt(at)) >= 0) {
                return -100 - at;
            }
            Matcher item = ITEM.matcher(text).region(at, text.length());
            if (!item.lookingAt()) {
                return -100 - (at + 1);
            }
            char letter = text.charAt(at);
            int number = Integer.parseInt(item.group(2));
            if (!asTold(letter, number)) {
                return -100 - (at + 1);
            }
            seen.append(letter);
            law["lruskh".indexOf(letter)] = number;
            at = item.end();
            if (at == text.length()) {
                lift = law[0];
                rub = law[1];
                up = law[2];
                needed = law[3];
                near = law[4];
                hard = law[5];
                return seen.length();
            }
            if (text.charAt(at) != ';' || seen.length() == 6) {
                return -100 - at;
            }
            at++;
        }
    }

    long rule(int what) {
        int[] all = {lift, rub, up, needed, near, hard};
        return what < 0 || what > 5 ? -1 : all[what];
    }

    private List<Integer> row(int k, int lane, int i, int n, int least, int greatest) {
        int[] taken = cells(k, lane, i, n);
        in(n, 1, 20);
        List<Integer> list = new ArrayList<>();
        for (int number : taken) {
            in(number, least, greatest);
            list.add(number);
        }
        return list;
    }

    long waves(int k, int lane, int i, int n) {
        return faulty(() -> {
            waves = row(k, lane, i, n, -9, 9);
            return n;
        }, false);
    }

    long shift(int v) {
        return plain(() -> {
            in(v, 0, 19);
            int was = shift;
            shift = v;
            return was;
        });
    }

    private int waveThere(int x) {
        return waves.get((x + shift) % waves.size());
    }

    long wave(int x) {
        return x < 0 || x > 99999 ? -99 : waveThere(x);
    }

    // ---- 2

    private List<Touch> flown(Stone stone, int speed, int fall, int slant, int spin) {
        List<Touch> touches = new ArrayList<>();
        int x = 0;
        int beat = 0;
        while (true) {
            int tilt = slant + waveThere(x);
            boolean sinks = tilt < 1 || tilt > 45
                || speed * stone.wide * tilt / (lift * 10) < stone.weight * (fall + 10);
            int by = tilt > hard ? 50 : 100;
            int taken = sinks ? 0 : speed * (rub + tilt + stone.rough) / by + 1;
            int[] told = {0, x, speed, fall, slant, spin, tilt, taken, beat};
            if (sinks) {
                touches.add(new Touch(told));
                return touches;
            }
            if (tilt > hard) {
                told[0] = 3;
                touches.add(new Steep(told));
            } else {
                fall = fall * up / 100;
                fall = fall == 0 ? 1 : fall;
                told[0] = fall <= near ? 2 : 1;
                touches.add(fall <= near ? new Skating(told) : new Clean(told));
            }
            speed -= taken;
            spin = spin - spin / 10 - 1;
            spin = spin < 0 ? 0 : spin;
            slant += spin < needed ? (needed - spin) / 5 : 0;
            if (speed <= 0 || touches.size() == 90) {
                return touches;
            }
            x += speed * fall / 20;
            beat += fall / 5;
        }
    }

    long toss(int x, int speed, int fall, int slant, int spin) {
        return plain(() -> {
            Stone s = stoneOf(x);
            in(speed, 1, 300);
            in(fall, 1, 99);
            in(slant, 0, 45);
            in(spin, 0, 99);
            kept = flown(s, speed, fall, slant, spin);
            return kept.size();
        });
    }

    private Touch touchOf(int k) {
        need(k >= 0 && k < kept.size(), -1);
        return kept.get(k);
    }

    long touch(int k, int what) {
        return plain(() -> {
            Touch t = touchOf(k);
            in(what, 0, 8);
            return t.told[what];
        });
    }

    private static int judged(List<Touch> touches, int j) {
        if (j == 4) {
            return touches.get(touches.size() - 1).told[1];
        }
        int many = 0;
        Touch ahead = null;
        Touch counted = null;
        for (Touch t : touches) {
            boolean counts;
            if (j == 0) {
                counts = t instanceof Clean;
            } else if (j == 1) {
                counts = t instanceof Clean && !(t instanceof Skating);
            } else if (j == 2) {
                counts = t instanceof Clean && (counted == null || counted.told[1] + 3 <= t.told[1]);
            } else {
                counts = ahead == null || !(t.told[8] - ahead.told[8] < 2);
            }
            many += counts ? 1 : 0;
            counted = counts ? t : counted;
            ahead = t;
        }
        return many;
    }

    long judge(int j) {
        return plain(() -> {
            need(j >= 0 && j <= 4, -1);
            need(!kept.isEmpty(), -3);
            return judged(kept, j);
        });
    }

    // ---- 3

    long line(int x, int slant, int fall) {
        return plain(() -> {
            Stone s = stoneOf(x);
            in(slant, 0, 45);
            in(fall, 1, 99);
            for (int speed = 1; speed <= 300; speed++) {
                if (flown(s, speed, fall, slant, 0).get(0) instanceof Clean) {
                    return speed;
                }
            }
            return -9;
        });
    }

    private static void inGrid(int v, int dv, int n, int dn) {
        in(dv, 0, 20);
        in(dn, 0, 10);
        in(v, 1, 300);
        in(v + dv, 1, 300);
        in(n, 0, 45);
        in(n + dn, 0, 45);
    }

    private List<Thrown> gridOf(Stone s, int v, int dv, int n, int dn) {
        List<Thrown> all = new ArrayList<>();
        for (int speed = v; speed <= v + dv; speed++) {
            for (int slant = n; slant <= n + dn; slant++) {
                all.add(new Thrown(speed, slant, flown(s, speed, gridFall, slant, gridSpin)));
            }
        }
        return all;
    }

    long best(int x, int v, int dv, int n, int dn, int j, int what) {
        return plain(() -> {
            Stone s = stoneOf(x);
            need(j >= 0 && j <= 4, -1);
            inGrid(v, dv, n, dn);
            in(what, 0, 2);
            List<Thrown> all = gridOf(s, v, dv, n, dn);
            all.sort(Comparator.comparingInt((Thrown t) -> -judged(t.touches, j))
                .thenComparingInt(Thrown::speed).thenComparingInt(Thrown::slant));
            Thrown first = all.get(0);
            return what == 0 ? judged(first.touches, j) : what == 1 ? first.speed : first.slant;
        });
    }

    long grid(int fall, int spin) {
        return plain(() -> {
            in(fall, 1, 99);
            in(spin, 0, 99);
            boolean so = gridFall == fall && gridSpin == spin;
            gridFall = fall;
            gridSpin = spin;
            return so ? 0 : 1;
        });
    }

    private BigInteger[] oddsOf(Stone s, int v, int dv, int n, int dn, int j, int m) {
        List<Thrown> all = gridOf(s, v, dv, n, dn);
        long hits = all.stream().filter(t -> judged(t.touches, j) >= m).count();
        return new BigInteger[] {BigInteger.valueOf(hits), BigInteger.valueOf(all.size())};
    }

    private static long share(BigInteger upper, BigInteger lower, int which) {
        return (which == 0 ? upper : lower).divide(upper.gcd(lower)).longValueExact();
    }

    long odds(int x, int v, int dv, int n, int dn, int j, int m, int which) {
        return longPlain(() -> {
            Stone s = stoneOf(x);
            need(j >= 0 && j <= 4, -1);
            inGrid(v, dv, n, dn);
            in(which, 0, 1);
            BigInteger[] odds = oddsOf(s, v, dv, n, dn, j, m);
            return share(odds[0], odds[1], which);
        });
    }

    long narrow(int x, int v, int dv, int n, int dn, int j, int m) {
        return plain(() -> {
            Stone s = stoneOf(x);
            need(j >= 0 && j <= 4, -1);
            inGrid(v, dv, n, dn);
            if (dv == 0 && dn == 0) {
                return -9;
            }
            if (dv == 0 || dn == 0) {
                return dv == 0 ? 1 : 0;
            }
            BigInteger[] speeds = oddsOf(s, v, dv - 1, n, dn, j, m);
            BigInteger[] slants = oddsOf(s, v, dv, n, dn - 1, j, m);
            return slants[0].multiply(speeds[1]).compareTo(speeds[0].multiply(slants[1])) > 0 ? 1 : 0;
        });
    }

    long rings(int k, int lane, int i, int n) {
        return faulty(() -> {
            rings = row(k, lane, i, n, 1, Integer.MAX_VALUE);
            return n;
        }, false);
    }

    private boolean ringsOf(Thrown t) {
        List<Integer> places = new ArrayList<>();
        for (Touch touch : t.touches.subList(1, t.touches.size())) {
            places.add(touch.told[1]);
        }
        return places.size() >= rings.size() && places.subList(0, rings.size()).equals(rings);
    }

    long read(int x, int v, int dv, int n, int dn, int what) {
        return plain(() -> {
            Stone s = stoneOf(x);
            inGrid(v, dv, n, dn);
            in(what, 0, 2);
            need(!rings.isEmpty(), -3);
            List<Thrown> so = gridOf(s, v, dv, n, dn).stream().filter(this::ringsOf).toList();
            if (what == 0) {
                return so.size();
            }
            return so.isEmpty() ? -9 : what == 1 ? so.get(0).speed : so.get(0).slant;
        });
    }

    long there(int x, int v, int dv, int n, int dn, int a, int b) {
        return plain(() -> {
            Stone s = stoneOf(x);
            inGrid(v, dv, n, dn);
            return gridOf(s, v, dv, n, dn).stream().mapToInt(t -> judged(t.touches, 4))
                .filter(far -> a <= far && far <= b).count();
        });
    }

    long when(int x, int speed, int slant, int j, int what) {
        return plain(() -> {
            Stone s = stoneOf(x);
            need(j >= 0 && j <= 4, -1);
            in(speed, 1, 300);
            in(slant, 0, 45);
            in(what, 0, 1);
            int was = shift;
            int bestShift = 0;
            int most = 0;
            for (int by = waves.size() - 1; by >= 0; by--) {
                shift = by;
                int many = judged(flown(s, speed, gridFall, slant, gridSpin), j);
                if (many >= most) {
                    most = many;
                    bestShift = by;
                }
            }
            shift = was;
            return what == 0 ? bestShift : most;
        });
    }

    // ---- 4

    long beach(int x, int many, int worth) {
        return plain(() -> {
            stoneOf(x);
            in(many, 0, 9);
            in(worth, 0, 99);
            int[] was = lying.get(x);
            boolean so = was[0] == many && was[1] == worth;
            lying.set(x, new int[] {many, worth});
            return so ? 0 : 1;
        });
    }

    private BigInteger all() {
        return BigInteger.valueOf(lying.stream().mapToLong(l -> l[0]).sum());
    }

    /** How many ways there are to have each best worth, look by look. */
    private BigInteger bestSum(int n) {
        BigInteger[] ways = new BigInteger[100];
        java.util.Arrays.fill(ways, BigInteger.ZERO);
        ways[0] = BigInteger.ONE;
        for (int look = 0; look < n; look++) {
            BigInteger[] next = new BigInteger[100];
            java.util.Arrays.fill(next, BigInteger.ZERO);
            for (int best = 0; best < 100; best++) {
                for (int[] l : lying) {
                    int now = Math.max(best, l[1]);
                    next[now] = next[now].add(ways[best].multiply(BigInteger.valueOf(l[0])));
                }
            }
            ways = next;
        }
        BigInteger sum = BigInteger.ZERO;
        for (int best = 0; best < 100; best++) {
            sum = sum.add(ways[best].multiply(BigInteger.valueOf(best)));
        }
        return sum;
    }

    long mean(int n, int which) {
        return longPlain(() -> {
            in(n, 1, 6);
            in(which, 0, 1);
            need(all().signum() > 0, -3);
            return share(bestSum(n), all().pow(n), which);
        });
    }

    long hours(int cost) {
        return plain(() -> {
            in(cost, 0, 99);
            need(all().signum() > 0, -3);
            int best = 6;
            BigInteger most = null;
            for (int n = 6; n >= 1; n--) {
                BigInteger left = bestSum(n).multiply(all().pow(6 - n))
                    .subtract(all().pow(6).multiply(BigInteger.valueOf((long) n * cost)));
                if (most == null || left.compareTo(most) >= 0) {
                    most = left;
                    best = n;
                }
            }
            return best;
        });
    }

    // ---- 5

    long sheet(int k, int lane, int n) {
        return faulty(() -> {
            need(k >= 0 && k < 4, -1);
            in(lane, 0, 2);
            need(n <= 60, -2);
            sheets[k] = lane == 0 ? new byte[n] : lane == 1 ? new short[n] : new int[n];
            return 1;
        }, false);
    }

    long lose(int k) {
        return plain(() -> {
            need(k >= 0 && k < 4, -1);
            boolean had = sheets[k] != null;
            sheets[k] = null;
            return had ? 1 : 0;
        });
    }

    long put(int k, int i, int v) {
        return faulty(() -> {
            need(k >= 0 && k < 4, -1);
            if (sheets[k] instanceof byte[] b) {
                b[i] = (byte) v;
            } else if (sheets[k] instanceof short[] s) {
                s[i] = (short) v;
            } else {
                ((int[]) sheets[k])[i] = v;
            }
            return 1;
        }, false);
    }

    long cell(int k, int i, int lane) {
        return faulty(() -> {
            need(k >= 0 && k < 4, -1);
            in(lane, 0, 2);
            lengthAs(sheets[k], lane);
            return at(sheets[k], i);
        }, true);
    }

    long copy(int k, int i, int other, int j, int n) {
        return faulty(() -> {
            need(k >= 0 && k < 4 && other >= 0 && other < 4, -1);
            System.arraycopy(sheets[k], i, sheets[other], j, n);
            return n;
        }, false);
    }

    long tell(int k) {
        return plain(() -> touchOf(k).tells(this));
    }

    long hear(int k) {
        return plain(() -> touchOf(k).heard(this, k));
    }

    long as(int k, int kind) {
        return faulty(() -> {
            Touch t = touchOf(k);
            in(kind, 0, 3);
            Class<?>[] kinds = {Touch.class, Clean.class, Skating.class, Steep.class};
            kinds[kind].cast(t);
            return 1;
        }, false);
    }

    long trace() {
        return trace;
    }

    long fault() {
        return fault;
    }

    long many(int what) {
        int[] all = {stones.size(), kept.size(), waves.size(), rings.size()};
        return what < 0 || what > 3 ? -2 : all[what];
    }
}
