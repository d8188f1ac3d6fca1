import java.util.Arrays;

/** Stones that skip over water: throws, grids of throws, a beach to pick from, and sheets of numbers. */
public final class SkipStones {

    public static final int UNKNOWN = -1, OUTSIDE = -2, STATE = -3, FULL = -4, NONE = -9;
    public static final long LOST = Long.MIN_VALUE;

    private static final int NULL = 1, CAST = 2, INDEX = 3, SIZE = 4;

    private static final int SUNK = 0, CLEAN = 1, SKATING = 2, STEEP = 3;

    private static final int BY_KIND = 1, BY_PLACE = 2, BY_EAR = 3, FAR = 4;

    private static final int LIFT = 0, RUB = 1, UP = 2, NEEDED = 3, NEAR = 4, HARD = 5, LAWS = 6;
    private static final int[] LETTERS = {108, 114, 117, 115, 107, 104};
    private static final int[] LEAST = {1, 0, 1, 0, 0, 1};
    private static final int[] GREATEST = {99, 50, 99, 99, 50, 45};
    private static final int[] AT_FIRST = {20, 5, 80, 20, 6, 20};

    private static final int STONES_MOST = 8, SHEETS = 4, CELLS_MOST = 60, ROW_MOST = 20;
    private static final int SPEED_MOST = 300, FALL_MOST = 99, SLANT_MOST = 45, SPIN_MOST = 99;
    private static final int TILT_MOST = 45, TOUCHES_MOST = 90;
    private static final int LOOKS_MOST = 6, WORTH_MOST = 99;
    private static final int INT_MOST = 2147483647;

    private final Stone[] stones = new Stone[STONES_MOST];
    private int stoneCount = 0;
    private final Water water = new Water();
    private final LawText text = new LawText();
    private final Flight kept = new Flight();
    // Throws that are only tried out fly here, so that the kept one stays and no call makes new rows.
    private final Flight tried = new Flight();
    private int gridFall = 30;
    private int gridSpin = 60;
    private final int[] ringPlaces = new int[ROW_MOST];
    private int ringCount = 0;
    private final Sheet[] sheets = new Sheet[SHEETS];
    private int traced = 0;
    private int lastFault = 0;

    public SkipStones() {
        // A text that has told nothing yet has all numbers as at first.
        water.takeLaw(text);
        for (int k = 0; k < sheets.length; k++) {
            sheets[k] = new Sheet();
        }
    }

    // ---- 1 stones, water

    public int stone(int weight, int wide, int rough) {
        if (!within(weight, 1, 99) || !within(wide, 1, 99) || !within(rough, 0, 9)) {
            return OUTSIDE;
        }
        if (stoneCount < 0 || stoneCount >= stones.length) {
            return FULL;
        }
        stones[stoneCount] = new Stone(weight, wide, rough);
        stoneCount++;
        return stoneCount - 1;
    }

    public int ofStone(int x, int what) {
        Stone stone = stoneAt(x);
        if (stone == null) {
            return UNKNOWN;
        }
        switch (what) {
            case 0: return stone.weight;
            case 1: return stone.wide;
            case 2: return stone.rough;
            case 3: return stone.lying;
            case 4: return stone.worth;
            default: return OUTSIDE;
        }
    }

    public int law(int sheet, int lane, int i, int n) {
        int refused = refusalOfCells(sheet, lane, i, n);
        if (refused != 0) {
            return refused;
        }
        int faultPlace = text.firstFault(sheetAt(sheet), i, n);
        if (faultPlace >= 0) {
            return -100 - faultPlace;
        }
        water.takeLaw(text);
        return text.items;
    }

    public int rule(int what) {
        switch (what) {
            case LIFT: return water.lift;
            case RUB: return water.rub;
            case UP: return water.up;
            case NEEDED: return water.needed;
            case NEAR: return water.near;
            case HARD: return water.hard;
            default: return UNKNOWN;
        }
    }

    public int waves(int sheet, int lane, int i, int n) {
        int refused = refusalOfRow(sheet, lane, i, n, -9, 9);
        if (refused != 0) {
            return refused;
        }
        takeCells(sheet, i, n, water.waveRow);
        water.waveCount = n;
        return n;
    }

    public int shift(int v) {
        if (!within(v, 0, 19)) {
            return OUTSIDE;
        }
        int before = water.shifted;
        water.shifted = v;
        return before;
    }

    public int wave(int x) {
        return within(x, 0, 99999) ? water.waveAt(x, water.shifted) : -99;
    }

    // ---- 2 throws

    public int toss(int x, int speed, int fall, int slant, int spin) {
        Stone stone = stoneAt(x);
        if (stone == null) {
            return UNKNOWN;
        }
        if (!within(speed, 1, SPEED_MOST) || !within(fall, 1, FALL_MOST)
                || !within(slant, 0, SLANT_MOST) || !within(spin, 0, SPIN_MOST)) {
            return OUTSIDE;
        }
        kept.begin(speed, fall, slant, spin);
        kept.goOn(stone, water, water.shifted);
        return kept.count;
    }

    public int touch(int k, int what) {
        if (!isTouch(k)) {
            return UNKNOWN;
        }
        return within(what, 0, Flight.VALUES - 1) ? kept.value(k, what) : OUTSIDE;
    }

    public int judge(int j) {
        if (!isJudge(j)) {
            return UNKNOWN;
        }
        return kept.count == 0 ? STATE : kept.counted(j);
    }

    // ---- 3 lines, grids

    public int line(int x, int slant, int fall) {
        Stone stone = stoneAt(x);
        if (stone == null) {
            return UNKNOWN;
        }
        if (!within(slant, 0, SLANT_MOST) || !within(fall, 1, FALL_MOST)) {
            return OUTSIDE;
        }
        int tilt = slant + water.waveAt(0, water.shifted);
        for (int speed = 1; speed <= SPEED_MOST; speed++) {
            if (!sinks(stone, water, speed, fall, tilt)) {
                return speed;
            }
        }
        return NONE;
    }

    public int best(int x, int v, int dv, int n, int dn, int j, int what) {
        Stone stone = stoneAt(x);
        if (stone == null || !isJudge(j)) {
            return UNKNOWN;
        }
        if (!isGrid(v, dv, n, dn) || !within(what, 0, 2)) {
            return OUTSIDE;
        }
        int most = -1;
        int bestSpeed = v;
        int bestSlant = n;
        for (int speed = v; speed <= v + dv; speed++) {
            for (int slant = n; slant <= n + dn; slant++) {
                int many = countOf(stone, speed, slant, j, water.shifted);
                if (many > most) {
                    most = many;
                    bestSpeed = speed;
                    bestSlant = slant;
                }
            }
        }
        return pick(what, most, bestSpeed, bestSlant);
    }

    public int grid(int fall, int spin) {
        if (!within(fall, 1, FALL_MOST) || !within(spin, 0, SPIN_MOST)) {
            return OUTSIDE;
        }
        if (fall == gridFall && spin == gridSpin) {
            return 0;
        }
        gridFall = fall;
        gridSpin = spin;
        return 1;
    }

    public long odds(int x, int v, int dv, int n, int dn, int j, int m, int which) {
        Stone stone = stoneAt(x);
        if (stone == null || !isJudge(j) || !isGrid(v, dv, n, dn) || !within(which, 0, 1)) {
            return LOST;
        }
        return share(hits(stone, v, dv, n, dn, j, m), throwsOf(dv, dn), which);
    }

    public int narrow(int x, int v, int dv, int n, int dn, int j, int m) {
        Stone stone = stoneAt(x);
        if (stone == null || !isJudge(j)) {
            return UNKNOWN;
        }
        if (!isGrid(v, dv, n, dn)) {
            return OUTSIDE;
        }
        if (dv == 0) {
            return dn == 0 ? NONE : 1;
        }
        if (dn == 0) {
            return 0;
        }
        long fewerSpeeds = hits(stone, v, dv - 1, n, dn, j, m) * throwsOf(dv, dn - 1);
        long fewerSlants = hits(stone, v, dv, n, dn - 1, j, m) * throwsOf(dv - 1, dn);
        return fewerSlants > fewerSpeeds ? 1 : 0;
    }

    public int rings(int sheet, int lane, int i, int n) {
        int refused = refusalOfRow(sheet, lane, i, n, 1, INT_MOST);
        if (refused != 0) {
            return refused;
        }
        takeCells(sheet, i, n, ringPlaces);
        ringCount = n;
        return n;
    }

    public int read(int x, int v, int dv, int n, int dn, int what) {
        Stone stone = stoneAt(x);
        if (stone == null) {
            return UNKNOWN;
        }
        if (!isGrid(v, dv, n, dn) || !within(what, 0, 2)) {
            return OUTSIDE;
        }
        if (ringCount == 0) {
            return STATE;
        }
        int many = 0;
        int firstSpeed = NONE;
        int firstSlant = NONE;
        for (int speed = v; speed <= v + dv; speed++) {
            for (int slant = n; slant <= n + dn; slant++) {
                tryOut(stone, speed, slant, water.shifted);
                if (tried.ringsAt(ringPlaces, ringCount)) {
                    firstSpeed = many == 0 ? speed : firstSpeed;
                    firstSlant = many == 0 ? slant : firstSlant;
                    many++;
                }
            }
        }
        return pick(what, many, firstSpeed, firstSlant);
    }

    public int there(int x, int v, int dv, int n, int dn, int a, int b) {
        Stone stone = stoneAt(x);
        if (stone == null) {
            return UNKNOWN;
        }
        if (!isGrid(v, dv, n, dn)) {
            return OUTSIDE;
        }
        int many = 0;
        for (int speed = v; speed <= v + dv; speed++) {
            for (int slant = n; slant <= n + dn; slant++) {
                if (within(countOf(stone, speed, slant, FAR, water.shifted), a, b)) {
                    many++;
                }
            }
        }
        return many;
    }

    public int when(int x, int speed, int slant, int j, int what) {
        Stone stone = stoneAt(x);
        if (stone == null || !isJudge(j)) {
            return UNKNOWN;
        }
        if (!within(speed, 1, SPEED_MOST) || !within(slant, 0, SLANT_MOST) || !within(what, 0, 1)) {
            return OUTSIDE;
        }
        int most = -1;
        int bestShift = 0;
        for (int by = 0; by < water.waveCount; by++) {
            int many = countOf(stone, speed, slant, j, by);
            if (many > most) {
                most = many;
                bestShift = by;
            }
        }
        return what == 0 ? bestShift : most;
    }

    // ---- 4 beaches

    public int beach(int x, int many, int worth) {
        Stone stone = stoneAt(x);
        if (stone == null) {
            return UNKNOWN;
        }
        if (!within(many, 0, 9) || !within(worth, 0, WORTH_MOST)) {
            return OUTSIDE;
        }
        if (many == stone.lying && worth == stone.worth) {
            return 0;
        }
        stone.lying = many;
        stone.worth = worth;
        return 1;
    }

    public long mean(int n, int which) {
        if (!within(n, 1, LOOKS_MOST) || !within(which, 0, 1)) {
            return LOST;
        }
        long all = lyingBelow(WORTH_MOST + 1);
        if (all == 0) {
            return LOST;
        }
        return share(bestWorths(n), power(all, n), which);
    }

    public int hours(int cost) {
        if (!within(cost, 0, 99)) {
            return OUTSIDE;
        }
        long all = lyingBelow(WORTH_MOST + 1);
        if (all == 0) {
            return STATE;
        }
        // All means stand over the same lower number, so that their upper ones compare.
        long lower = power(all, LOOKS_MOST);
        int bestLooks = 1;
        long most = 0;
        for (int n = 1; n <= LOOKS_MOST; n++) {
            long left = bestWorths(n) * power(all, LOOKS_MOST - n) - n * cost * lower;
            if (n == 1 || left > most) {
                most = left;
                bestLooks = n;
            }
        }
        return bestLooks;
    }

    // ---- 5 sheets, parts

    public int sheet(int k, int lane, int n) {
        lastFault = 0;
        Sheet sheet = sheetAt(k);
        if (sheet == null) {
            return UNKNOWN;
        }
        if (!isLane(lane) || n > CELLS_MOST) {
            return OUTSIDE;
        }
        if (n < 0) {
            return faulted(SIZE);
        }
        sheet.renew(lane, n);
        return 1;
    }

    public int lose(int k) {
        Sheet sheet = sheetAt(k);
        if (sheet == null) {
            return UNKNOWN;
        }
        if (!sheet.something) {
            return 0;
        }
        sheet.something = false;
        return 1;
    }

    public int put(int k, int i, int v) {
        lastFault = 0;
        Sheet sheet = sheetAt(k);
        if (sheet == null) {
            return UNKNOWN;
        }
        if (!sheet.something) {
            return faulted(NULL);
        }
        if (!sheet.has(i)) {
            return faulted(INDEX);
        }
        sheet.write(i, v);
        return 1;
    }

    public long cell(int k, int i, int lane) {
        lastFault = 0;
        Sheet sheet = sheetAt(k);
        if (sheet == null || !isLane(lane)) {
            return LOST;
        }
        lastFault = sheet.faultAs(lane);
        if (lastFault == 0 && !sheet.has(i)) {
            lastFault = INDEX;
        }
        return lastFault == 0 ? sheet.number(i) : LOST;
    }

    public int copy(int k, int i, int other, int j, int n) {
        lastFault = 0;
        Sheet from = sheetAt(k);
        Sheet to = sheetAt(other);
        if (from == null || to == null) {
            return UNKNOWN;
        }
        if (!from.something || !to.something) {
            return faulted(NULL);
        }
        if (from.lane != to.lane) {
            return faulted(CAST);
        }
        if (n < 0 || !from.hasFrom(i, n) || !to.hasFrom(j, n)) {
            return faulted(INDEX);
        }
        System.arraycopy(from.cells, i, to.cells, j, n);
        return n;
    }

    public int tell(int k) {
        if (!isTouch(k)) {
            return UNKNOWN;
        }
        switch (kept.value(k, Flight.KIND)) {
            case CLEAN: return tellClean(k);
            case SKATING: return tellSkating(k);
            case STEEP: return tellSteep(k);
            default: return tellSunk(k);
        }
    }

    public int hear(int k) {
        if (!isTouch(k)) {
            return UNKNOWN;
        }
        if (kept.value(k, Flight.KIND) == SKATING) {
            leave(5);
            return 60;
        }
        leave(4);
        return k;
    }

    public int as(int k, int kind) {
        lastFault = 0;
        if (!isTouch(k)) {
            return UNKNOWN;
        }
        if (!within(kind, 0, STEEP)) {
            return OUTSIDE;
        }
        int own = kept.value(k, Flight.KIND);
        boolean isOne = kind == 0 || kind == own || kind == CLEAN && own != SUNK;
        return isOne ? 1 : faulted(CAST);
    }

    public int trace() {
        return traced;
    }

    public int fault() {
        return lastFault;
    }

    public int many(int what) {
        switch (what) {
            case 0: return stoneCount;
            case 1: return kept.count;
            case 2: return water.waveCount;
            case 3: return ringCount;
            default: return OUTSIDE;
        }
    }

    // ---- what several parts use

    private static boolean within(int number, int least, int greatest) {
        return number >= least && number <= greatest;
    }

    private static boolean isLane(int lane) {
        return within(lane, 0, 2);
    }

    private static boolean isJudge(int j) {
        return within(j, 0, FAR);
    }

    private boolean isTouch(int k) {
        return k >= 0 && k < kept.count;
    }

    private Stone stoneAt(int x) {
        return x < 0 || x >= stoneCount || x >= stones.length ? null : stones[x];
    }

    private Sheet sheetAt(int k) {
        return k < 0 || k >= sheets.length ? null : sheets[k];
    }

    private static int pick(int what, int many, int speed, int slant) {
        return what == 0 ? many : what == 1 ? speed : slant;
    }

    // ---- throws and grids

    private static boolean sinks(Stone stone, Water water, int speed, int fall, int tilt) {
        int lift = water.lift;
        if (tilt < 1 || tilt > TILT_MOST || lift < 1) {
            return true;
        }
        return speed * stone.wide * tilt / (10 * lift) < stone.weight * (fall + 10);
    }

    private static boolean isGrid(int v, int dv, int n, int dn) {
        // The spans come first: only then v and n compare with what cannot wrap.
        return within(dv, 0, 20) && within(dn, 0, 10)
                && within(v, 1, SPEED_MOST - dv) && within(n, 0, SLANT_MOST - dn);
    }

    private static int throwsOf(int dv, int dn) {
        return (dv + 1) * (dn + 1);
    }

    private void tryOut(Stone stone, int speed, int slant, int by) {
        tried.begin(speed, gridFall, slant, gridSpin);
        tried.goOn(stone, water, by);
    }

    private int countOf(Stone stone, int speed, int slant, int j, int by) {
        tryOut(stone, speed, slant, by);
        return tried.counted(j);
    }

    private int hits(Stone stone, int v, int dv, int n, int dn, int j, int m) {
        int many = 0;
        for (int speed = v; speed <= v + dv; speed++) {
            for (int slant = n; slant <= n + dn; slant++) {
                if (countOf(stone, speed, slant, j, water.shifted) >= m) {
                    many++;
                }
            }
        }
        return many;
    }

    // ---- shares and the beach

    private static long share(long upper, long lower, int which) {
        long common = commonDivisor(upper, lower);
        if (common < 1) {
            return LOST;
        }
        return which == 0 ? upper / common : lower / common;
    }

    private static long commonDivisor(long a, long b) {
        // 200 is far above the steps that two longs can take (some 90).
        for (int step = 0; step < 200 && b != 0; step++) {
            long rest = a % b;
            a = b;
            b = rest;
        }
        return a;
    }

    private static long power(long base, int n) {
        long product = 1;
        for (int k = 0; k < n && k < LOOKS_MOST; k++) {
            product *= base;
        }
        return product;
    }

    private long lyingBelow(int worth) {
        long many = 0;
        for (int x = 0; x < stoneCount; x++) {
            Stone stone = stoneAt(x);
            if (stone != null && stone.worth < worth) {
                many += stone.lying;
            }
        }
        return many;
    }

    /** The sum of the best worth over all ways to draw n times, which are as many as all that lies to the n-th. */
    private long bestWorths(int n) {
        long ways = power(lyingBelow(WORTH_MOST + 1), n);
        long sum = 0;
        // A best of w is counted once for each of 1 .. w that it reaches.
        for (int worth = 1; worth <= WORTH_MOST; worth++) {
            sum += ways - power(lyingBelow(worth), n);
        }
        return sum;
    }

    // ---- sheets and faults

    private int faulted(int which) {
        lastFault = which;
        return -10 - which;
    }

    /** 0, if n cells of a sheet from i on can be taken as a row of a lane; else what the call answers. */
    private int refusalOfCells(int k, int lane, int i, int n) {
        lastFault = 0;
        Sheet sheet = sheetAt(k);
        if (sheet == null) {
            return UNKNOWN;
        }
        if (!isLane(lane)) {
            return OUTSIDE;
        }
        int wrong = sheet.faultAs(lane);
        if (wrong != 0) {
            return faulted(wrong);
        }
        if (n < 0) {
            return faulted(SIZE);
        }
        return sheet.hasFrom(i, n) ? 0 : faulted(INDEX);
    }

    /** As refusalOfCells, and OUTSIDE, if these are not 1 to 20 numbers from least to greatest. */
    private int refusalOfRow(int k, int lane, int i, int n, int least, int greatest) {
        int refused = refusalOfCells(k, lane, i, n);
        Sheet sheet = sheetAt(k);
        if (refused != 0 || sheet == null) {
            return refused;
        }
        if (!within(n, 1, ROW_MOST)) {
            return OUTSIDE;
        }
        for (int c = 0; c < n; c++) {
            if (!within(sheet.number(i + c), least, greatest)) {
                return OUTSIDE;
            }
        }
        return 0;
    }

    private void takeCells(int k, int i, int n, int[] row) {
        Sheet sheet = sheetAt(k);
        if (sheet == null) {
            return;
        }
        for (int c = 0; c < n && c < row.length; c++) {
            row[c] = sheet.number(i + c);
        }
    }

    // ---- telling

    private void leave(int body) {
        traced = 31 * traced + body;
    }

    private int tellSunk(int k) {
        leave(1);
        return kept.value(k, Flight.X);
    }

    private int tellClean(int k) {
        leave(2);
        return tellSunk(k) + 1000;
    }

    private int tellSkating(int k) {
        leave(3);
        int asClean = tellClean(k);
        return asClean + tellSunk(k);
    }

    private int tellSteep(int k) {
        leave(6);
        return tellClean(k) + 5000;
    }

    private static final class Stone {
        final int weight;
        final int wide;
        final int rough;
        int lying = 0;
        int worth = 0;

        Stone(int weight, int wide, int rough) {
            this.weight = weight;
            this.wide = wide;
            this.rough = rough;
        }
    }

    private static final class Water {
        int lift = 0;
        int rub = 0;
        int up = 0;
        int needed = 0;
        int near = 0;
        int hard = 0;
        final int[] waveRow = new int[ROW_MOST];
        int waveCount = 1;
        int shifted = 0;

        void takeLaw(LawText told) {
            lift = told.number(LIFT);
            rub = told.number(RUB);
            up = told.number(UP);
            needed = told.number(NEEDED);
            near = told.number(NEAR);
            hard = told.number(HARD);
        }

        int waveAt(int x, int by) {
            if (waveCount < 1) {
                return 0;
            }
            int place = (x + by) % waveCount;
            return place < 0 || place >= waveRow.length ? 0 : waveRow[place];
        }
    }

    /** Reads the text of a law; the water takes it only when all of it stands. */
    private static final class LawText {
        private static final int NO_FAULT = -1, NOTHING = -1;
        private static final int BETWEEN = 59, DIGIT_0 = 48, DIGIT_9 = 57;

        private final int[] numbers = AT_FIRST.clone();
        private final int[] timesTold = new int[LAWS];
        private Sheet from = null;
        private int start = 0;
        private int length = 0;
        private int at = 0;
        int items = 0;

        int number(int letter) {
            return letter < 0 || letter >= numbers.length ? 0 : numbers[letter];
        }

        /** The place of the first fault of the n codes from i on, or NO_FAULT. */
        int firstFault(Sheet sheet, int i, int n) {
            from = sheet;
            start = i;
            length = n;
            at = 0;
            items = 0;
            System.arraycopy(AT_FIRST, 0, numbers, 0, LAWS);
            Arrays.fill(timesTold, 0);
            for (int k = 0; k < LAWS; k++) {
                if (!readsItem()) {
                    return at;
                }
                items++;
                if (at >= length) {
                    return NO_FAULT;
                }
                if (code(at) != BETWEEN || items == LAWS) {
                    return at;
                }
                at++;
            }
            return at;
        }

        /** Whether an item stands here; if so, at is behind it, else at its fault. */
        private boolean readsItem() {
            int letter = letterAt(at);
            if (!isUntold(letter)) {
                return false;
            }
            at++;
            int first = digitAt(at);
            if (first == NOTHING) {
                return false;
            }
            int second = digitAt(at + 1);
            int told = second == NOTHING ? first : 10 * first + second;
            if (!isLawful(letter, told)) {
                return false;
            }
            numbers[letter] = told;
            timesTold[letter]++;
            at += second == NOTHING ? 1 : 2;
            return true;
        }

        private boolean isUntold(int letter) {
            return letter >= 0 && letter < timesTold.length && timesTold[letter] == 0;
        }

        private boolean isLawful(int letter, int told) {
            return letter >= 0 && letter < LEAST.length && letter < GREATEST.length && letter < numbers.length
                    && within(told, LEAST[letter], GREATEST[letter]);
        }

        private int letterAt(int place) {
            for (int letter = 0; letter < LETTERS.length; letter++) {
                if (code(place) == LETTERS[letter]) {
                    return letter;
                }
            }
            return NOTHING;
        }

        private int digitAt(int place) {
            int sign = code(place);
            return within(sign, DIGIT_0, DIGIT_9) ? sign - DIGIT_0 : NOTHING;
        }

        private int code(int place) {
            // Behind the end stands what is neither a letter nor a digit, so that a text that just ends fails there.
            return from == null || place < 0 || place >= length ? NOTHING : from.number(start + place);
        }
    }

    /** One throw and all its touches, in one row that is used again for the next throw. */
    private static final class Flight {
        static final int KIND = 0, X = 1, SPEED = 2, FALL = 3, SLANT = 4, SPIN = 5, TILT = 6, TAKEN = 7, BEAT = 8;
        static final int VALUES = 9;

        private final int[] values = new int[TOUCHES_MOST * VALUES];
        int count = 0;
        private int x = 0;
        private int speed = 0;
        private int fall = 0;
        private int slant = 0;
        private int spin = 0;
        private int beat = 0;

        int value(int k, int what) {
            if (k < 0 || k >= count || k >= TOUCHES_MOST || what < 0 || what >= VALUES) {
                return 0;
            }
            int place = k * VALUES + what;
            return place < 0 || place >= values.length ? 0 : values[place];
        }

        void begin(int speed, int fall, int slant, int spin) {
            this.speed = speed;
            this.fall = fall;
            this.slant = slant;
            this.spin = spin;
            x = 0;
            beat = 0;
            count = 0;
        }

        void goOn(Stone stone, Water water, int by) {
            boolean flies = true;
            for (int k = 0; k < TOUCHES_MOST && flies; k++) {
                flies = goesOffAgain(stone, water, slant + water.waveAt(x, by));
            }
        }

        private boolean goesOffAgain(Stone stone, Water water, int tilt) {
            if (sinks(stone, water, speed, fall, tilt)) {
                keep(SUNK, tilt, 0);
                return false;
            }
            boolean steep = tilt > water.hard;
            int drag = speed * (water.rub + tilt + stone.rough);
            int taken = (steep ? drag / 50 : drag / 100) + 1;
            int lower = steep ? fall : Math.max(1, fall * water.up / 100);
            keep(steep ? STEEP : lower <= water.near ? SKATING : CLEAN, tilt, taken);
            speed = Math.max(0, speed - taken);
            fall = lower;
            wobble(water.needed);
            if (speed == 0) {
                return false;
            }
            x += speed * fall / 20;
            beat += fall / 5;
            return true;
        }

        private void wobble(int needed) {
            spin = Math.max(0, spin - (spin / 10 + 1));
            if (spin < needed) {
                slant += (needed - spin) / 5;
            }
        }

        private void keep(int kind, int tilt, int taken) {
            int place = count * VALUES;
            if (count < 0 || count >= TOUCHES_MOST || place < 0 || place + BEAT >= values.length) {
                return;
            }
            values[place + KIND] = kind;
            values[place + X] = x;
            values[place + SPEED] = speed;
            values[place + FALL] = fall;
            values[place + SLANT] = slant;
            values[place + SPIN] = spin;
            values[place + TILT] = tilt;
            values[place + TAKEN] = taken;
            values[place + BEAT] = beat;
            count++;
        }

        int counted(int j) {
            if (j == FAR) {
                return value(count - 1, X);
            }
            int many = 0;
            // Far enough ahead of the first touch, at 0, that it counts in any case.
            int lastX = -3;
            for (int k = 0; k < count; k++) {
                if (counts(k, j, lastX)) {
                    many++;
                    lastX = value(k, X);
                }
            }
            return many;
        }

        private boolean counts(int k, int j, int lastX) {
            int kind = value(k, KIND);
            switch (j) {
                case BY_KIND: return kind == CLEAN || kind == STEEP;
                case BY_PLACE: return kind != SUNK && value(k, X) - lastX >= 3;
                case BY_EAR: return k == 0 || value(k, BEAT) - value(k - 1, BEAT) >= 2;
                default: return kind != SUNK;
            }
        }

        /** Whether the touches behind the first are at these places, whatever comes behind them. */
        boolean ringsAt(int[] places, int many) {
            if (count <= many) {
                return false;
            }
            for (int r = 0; r < many && r < places.length; r++) {
                if (value(r + 1, X) != places[r]) {
                    return false;
                }
            }
            return true;
        }
    }

    private static final class Sheet {
        final int[] cells = new int[CELLS_MOST];
        boolean something = false;
        int lane = 0;
        private int length = 0;

        void renew(int newLane, int n) {
            Arrays.fill(cells, 0);
            lane = newLane;
            length = n;
            something = true;
        }

        boolean has(int i) {
            return i >= 0 && i < length && i < cells.length;
        }

        boolean hasFrom(int i, int n) {
            return i >= 0 && i <= length && n >= 0 && n <= length - i;
        }

        int faultAs(int otherLane) {
            if (!something) {
                return NULL;
            }
            return lane == otherLane ? 0 : CAST;
        }

        int number(int i) {
            return has(i) ? cells[i] : 0;
        }

        void write(int i, int v) {
            if (has(i)) {
                cells[i] = lane == 0 ? (byte) v : lane == 1 ? (short) v : v;
            }
        }
    }
}
