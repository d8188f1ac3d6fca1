/** Promises 1 to 8: a new object, stones, the law, waves. */
public final class StonesWaterTest {
    private static final Due due = new Due("StonesWaterTest");

    public static void main(String[] args) {
        newObject();
        stones();
        stonesFull();
        lawTaken();
        lawFirstFaults();
        lawNumberEdges();
        lawRefusals();
        rules();
        wavesTaken();
        wavesRefusals();
        shifts();
        due.end();
    }

    private static void newObject() {
        SkipStones x = new SkipStones();
        due.is("1 stones", x.many(0), 0);
        due.is("1 touches", x.many(1), 0);
        due.is("1 waves", x.many(2), 1);
        due.is("1 rings", x.many(3), 0);
        due.is("1 stone 0", x.ofStone(0, 0), -1);
        due.is("1 nothing is thrown", x.toss(0, 100, 30, 10, 50), -1);
        due.is("1 no throw", x.judge(0), -3);
        due.is("1 no touch", x.touch(0, 0), -1);
        due.is("1 trace", x.trace(), 0);
        due.is("1 fault", x.fault(), 0);
        due.is("1 wave", x.wave(7), 0);
        due.is("1 shift", x.shift(0), 0);
        due.is("1 grid is 30, 60", x.grid(30, 60), 0);
        for (int k = 0; k < 4; k++) {
            due.is("1 sheet " + k + " has nothing", x.lose(k), 0);
            due.is("1 no cell there", x.put(k, 0, 1), -11);
        }
        SkipStones y = new SkipStones();
        y.stone(1, 1, 1);
        due.is("1 objects stand alone", x.many(0), 0);
    }

    private static void stones() {
        SkipStones x = new SkipStones();
        due.is("2 least", x.stone(1, 1, 0), 0);
        due.is("2 greatest", x.stone(99, 98, 9), 1);
        int[][] outside = {{0, 5, 5}, {100, 5, 5}, {5, 0, 5}, {5, 100, 5}, {5, 5, -1}, {5, 5, 10},
            {Integer.MIN_VALUE, 5, 5}, {5, Integer.MAX_VALUE, 5}};
        for (int[] s : outside) {
            due.is("2 outside " + s[0] + "," + s[1] + "," + s[2], x.stone(s[0], s[1], s[2]), -2);
        }
        due.is("2 refused ones are none", x.many(0), 2);
        due.is("2 the next number", x.stone(7, 99, 3), 2);
        long[][] want = {{1, 1, 0, 0, 0}, {99, 98, 9, 0, 0}, {7, 99, 3, 0, 0}};
        for (int s = 0; s < 3; s++) {
            for (int what = 0; what < 5; what++) {
                due.is("3 ofStone(" + s + "," + what + ")", x.ofStone(s, what), want[s][what]);
            }
        }
        x.beach(1, 4, 55);
        due.is("3 lying", x.ofStone(1, 3), 4);
        due.is("3 worth", x.ofStone(1, 4), 55);
        due.is("3 lying of another", x.ofStone(2, 3), 0);
        due.is("3 unknown", x.ofStone(3, 0), -1);
        due.is("3 unknown below", x.ofStone(-1, 0), -1);
        due.is("3 unknown first", x.ofStone(3, 9), -1);
        due.is("3 outside", x.ofStone(0, 5), -2);
        due.is("3 outside below", x.ofStone(0, -1), -2);
        due.is("3 greatest int", x.ofStone(Integer.MAX_VALUE, 0), -1);
    }

    private static void stonesFull() {
        SkipStones x = new SkipStones();
        for (int s = 0; s < 8; s++) {
            due.is("2 stone " + s, x.stone(s + 1, s + 2, s), s);
        }
        due.is("2 full", x.stone(1, 1, 1), -4);
        due.is("2 outside ahead of full", x.stone(0, 1, 1), -2);
        due.is("2 still eight", x.many(0), 8);
        due.is("2 the last", x.ofStone(7, 1), 9);
        due.is("2 none behind", x.ofStone(8, 0), -1);
    }

    private static void ruleIs(SkipStones x, String call, int... want) {
        for (int what = 0; what < want.length; what++) {
            due.is(call + ": rule(" + what + ")", x.rule(what), want[what]);
        }
    }

    private static void lawTaken() {
        SkipStones x = new SkipStones();
        due.is("4 one item", Due.law(x, "r7"), 1);
        ruleIs(x, "4 r7", 20, 7, 80, 20, 6, 20);
        due.is("4 all six", Due.law(x, "h9;k8;s77;u66;r5;l44"), 6);
        ruleIs(x, "4 all six", 44, 5, 66, 77, 8, 9);
        due.is("4 those not told are as at first", Due.law(x, "s1;l2"), 2);
        ruleIs(x, "4 s1;l2", 2, 5, 80, 1, 6, 20);
        due.is("4 a fault", Due.law(x, "l3;u0"), -104);
        ruleIs(x, "4 the law stays", 2, 5, 80, 1, 6, 20);
        due.is("4 two digits, the first 0", Due.law(x, "l05;r00"), 2);
        ruleIs(x, "4 l05;r00", 5, 0, 80, 20, 6, 20);
        Due.write(x, 0, 1, 59, 107, 51, 59, 114, 49, 59);
        due.is("4 cells in the middle, of shorts", x.law(0, 1, 1, 5), 2);
        ruleIs(x, "4 k3;r1", 20, 1, 80, 20, 3, 20);
        due.is("4 places are told from the first code on", x.law(0, 1, 1, 6), -106);
        Due.write(x, 0, 2, 108 + 256, 53);
        due.is("4 a code of an int is not cut", x.law(0, 2, 0, 2), -100);
        Due.write(x, 0, 0, 108 + 256, 53);
        due.is("4 that of a byte is", x.law(0, 0, 0, 2), 1);
        due.is("4 names no fault", x.fault(), 0);
    }

    private static void lawFirstFaults() {
        String[] texts = {"", "x", "5", ";", "l", "lx", "l;", "l1x", "l1", "l12", "l123", "l12;", "l1;", "l1;;", "l1;r",
            "l1;r2;l3", "l1;r2;r3", "l1r2", "l1;x", "l0", "l0x", "l00", "r51", "r51;l1", "r5;k51;l1", "u100", "h46",
            "h45", "k0;r0;s0", "l1;r1;u1;s1;k1;h1", "l1;r1;u1;s1;k1;h1;", "l1;r1;u1;s1;k1;h1;l1", "L1", " l1", "l1 ",
            "l-1", "l1;r1;u1;s1;k1;h0", "l1;r1;u1;s1;k1;h1x", "l:", "l/", "l1:"};
        int[] want = {-100, -100, -100, -100, -101, -101, -101, -102, 1, 1, -103, -104, -103, -103, -104,
            -106, -106, -102, -103, -101, -101, -101, -101, -101, -104, -103, -101,
            1, 3, 6, -117, -117, -100, -100, -102,
            -101, -116, -117, -101, -101, -102};
        due.is("4 as many answers as texts", want.length, texts.length);
        for (int t = 0; t < texts.length; t++) {
            due.is("4 law " + texts[t], Due.law(new SkipStones(), texts[t]), want[t]);
        }
        StringBuilder tooLong = new StringBuilder("l1;r1;u1;s1;k1;h1");
        while (tooLong.length() < 60) {
            tooLong.append(';');
        }
        due.is("4 a whole sheet", Due.law(new SkipStones(), tooLong.toString()), -117);
    }

    private static void lawNumberEdges() {
        String letters = "lruskh";
        int[] least = {1, 0, 1, 0, 0, 1};
        int[] greatest = {99, 50, 99, 99, 50, 45};
        for (int what = 0; what < 6; what++) {
            char letter = letters.charAt(what);
            for (int number = 0; number <= 99; number++) {
                SkipStones x = new SkipStones();
                boolean stands = number >= least[what] && number <= greatest[what];
                int before = x.rule(what);
                due.is("4 " + letter + number, Due.law(x, "" + letter + number), stands ? 1 : -101);
                due.is("5 behind " + letter + number, x.rule(what), stands ? number : before);
            }
        }
    }

    private static void lawRefusals() {
        SkipStones x = new SkipStones();
        due.is("4 unknown", x.law(4, 0, 0, 1), -1);
        due.is("4 unknown below", x.law(-1, 9, 0, 1), -1);
        due.is("4 lane", x.law(0, 3, 0, 1), -2);
        due.is("4 lane below", x.law(0, -1, 0, 1), -2);
        due.is("4 nothing is no cast", x.law(0, 1, 0, -1), -11);
        due.is("4 null", x.fault(), 1);
        Due.write(x, 0, 0, 108, 57, 57);
        due.is("4 cast ahead of size", x.law(0, 1, 0, -1), -12);
        due.is("4 cast", x.fault(), 2);
        due.is("4 size ahead of index", x.law(0, 0, -1, -1), -14);
        due.is("4 size", x.fault(), 4);
        int[][] beyond = {{-1, 1}, {0, 4}, {1, 3}, {3, 1}, {4, 0}, {-1, 0}, {Integer.MAX_VALUE, 1},
            {1, Integer.MAX_VALUE}, {Integer.MAX_VALUE, Integer.MAX_VALUE}, {Integer.MIN_VALUE, 0}};
        for (int[] b : beyond) {
            due.is("4 index of " + b[0] + ", " + b[1], x.law(0, 0, b[0], b[1]), -13);
            due.is("4 index", x.fault(), 3);
        }
        due.is("4 none at the end", x.law(0, 0, 3, 0), -100);
        due.is("4 a text's fault is none of the machine", x.fault(), 0);
        due.is("4 a fault again", x.law(0, 0, 4, 0), -13);
        due.is("4 a refusal", x.law(0, 3, 4, 0), -2);
        due.is("4 wipes it", x.fault(), 0);
        ruleIs(x, "4 nothing is changed", 20, 5, 80, 20, 6, 20);
        due.is("4 taken", x.law(0, 0, 0, 3), 1);
        due.is("4 now", x.rule(0), 99);
    }

    private static void rules() {
        SkipStones x = new SkipStones();
        ruleIs(x, "5 at first", 20, 5, 80, 20, 6, 20);
        due.is("5 unknown", x.rule(6), -1);
        due.is("5 unknown below", x.rule(-1), -1);
        due.is("5 least int", x.rule(Integer.MIN_VALUE), -1);
    }

    private static void wavesTaken() {
        SkipStones x = new SkipStones();
        x.shift(1);
        due.is("6 three", Due.waves(x, 4, -9, 9), 3);
        due.is("6 many", x.many(2), 3);
        int[] want = {-9, 9, 4, -9};
        for (int p = 0; p < want.length; p++) {
            due.is("6 shift stays, 8 wave(" + p + ")", x.wave(p), want[p]);
        }
        due.is("8 the last place", x.wave(99999), -9);
        due.is("8 behind it", x.wave(100000), -99);
        due.is("8 ahead", x.wave(-1), -99);
        due.is("8 least int", x.wave(Integer.MIN_VALUE), -99);
        due.is("8 greatest int", x.wave(Integer.MAX_VALUE), -99);
        due.is("6 from a place on", x.waves(3, 2, 1, 2), 2);
        due.is("8 of two, shifted by 1", x.wave(0), 9);
        due.is("8 of two, shifted by 1", x.wave(1), -9);
        int[] twenty = new int[20];
        for (int i = 0; i < 20; i++) {
            twenty[i] = i - 9 > 9 ? 9 : i - 9;
        }
        due.is("6 twenty", Due.waves(x, twenty), 20);
        due.is("7 the greatest", x.shift(19), 1);
        due.is("8 the last of twenty", x.wave(0), 9);
        due.is("8 the first again", x.wave(1), -9);
        due.is("8 far out", x.wave(41), -9);
    }

    private static void wavesRefusals() {
        SkipStones x = new SkipStones();
        Due.waves(x, 5, 6);
        due.is("6 unknown", x.waves(4, 3, 0, 1), -1);
        due.is("6 unknown below", x.waves(-1, 0, 0, 1), -1);
        due.is("6 lane", x.waves(3, 3, 0, 1), -2);
        due.is("6 lane below", x.waves(3, -1, 0, 1), -2);
        due.is("6 null", x.waves(0, 0, 0, -1), -11);
        due.is("6 its fault", x.fault(), 1);
        due.is("6 cast", x.waves(3, 0, 0, -1), -12);
        due.is("6 its fault", x.fault(), 2);
        due.is("6 size", x.waves(3, 2, 5, -1), -14);
        due.is("6 its fault", x.fault(), 4);
        due.is("6 index", x.waves(3, 2, 1, 2), -13);
        due.is("6 its fault", x.fault(), 3);
        due.is("6 index of many", x.waves(3, 2, 0, 21), -13);
        due.is("6 index of none", x.waves(3, 2, 3, 0), -13);
        due.is("6 none", x.waves(3, 2, 2, 0), -2);
        due.is("6 outside is no fault", x.fault(), 0);
        due.is("6 twenty-one", Due.waves(x, new int[21]), -2);
        due.is("6 ten", Due.waves(x, 1, 10), -2);
        due.is("6 below -9", Due.waves(x, -10, 1), -2);
        due.is("6 still two", x.many(2), 2);
        due.is("6 still the first", x.wave(0), 5);
        due.is("6 still the second", x.wave(1), 6);
    }

    private static void shifts() {
        SkipStones x = new SkipStones();
        due.is("7 was 0", x.shift(19), 0);
        due.is("7 was 19", x.shift(4), 19);
        due.is("7 outside", x.shift(20), -2);
        due.is("7 outside below", x.shift(-1), -2);
        due.is("7 was 4 still", x.shift(0), 4);
        due.is("7 names no fault", x.put(0, 0, 0), -11);
        x.shift(99);
        due.is("7 fault stays", x.fault(), 1);
    }
}
