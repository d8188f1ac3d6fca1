/** The edges of stones and water: promises 1 to 8 and their terms. */
final class WaterEdges {
    private static final int MIN = Integer.MIN_VALUE, MAX = Integer.MAX_VALUE;
    private static final int TERMS = Edges.TERMS;
    private static final String LETTERS = "lruskh";

    private final Edges e;

    WaterEdges(Edges e) {
        this.e = e;
    }

    void all() {
        stoneTerms();
        lawTerms();
        textTerms();
        waveTerms();
        newObject();
        stones();
        laws();
        waves();
    }

    private void texts(String[] texts, int[] want) {
        for (int t = 0; t < texts.length; t++) {
            e.is("law \"" + texts[t] + "\"", Due.law(new SkipStones(), texts[t]), want[t]);
        }
    }

    private void rules(SkipStones x, int... want) {
        for (int what = 0; what < want.length; what++) {
            e.is("rule(" + what + ")", x.rule(what), want[what]);
        }
    }

    // ---- terms

    private void stoneTerms() {
        e.of(TERMS, "1 STONES, 8 ever,", () -> {
            SkipStones x = new SkipStones();
            for (int s = 0; s < 8; s++) {
                e.is("stone " + s, x.stone(9, 9, 9), s);
            }
            e.is("the ninth", x.stone(9, 9, 9), -4);
            e.is("and again", x.stone(1, 1, 0), -4);
            e.is("many(0)", x.many(0), 8);
        });
        e.of(TERMS, "numbered as they come:", () -> {
            SkipStones x = new SkipStones();
            e.is("the first", x.stone(1, 2, 3), 0);
            e.is("one that is not as told takes no number", x.stone(0, 2, 3), -2);
            e.is("the second", x.stone(4, 5, 6), 1);
            e.is("ofStone(0, 1)", x.ofStone(0, 1), 2);
            e.is("ofStone(1, 1)", x.ofStone(1, 1), 5);
        });
        e.of(TERMS, "WEIGHT (1 .. 99),", () -> spanOfStone(0, 1, 99));
        e.of(TERMS, "WIDE (1 .. 99),", () -> spanOfStone(1, 1, 99));
        e.of(TERMS, "ROUGH (0 .. 9).", () -> spanOfStone(2, 0, 9));
    }

    private void spanOfStone(int which, int least, int greatest) {
        for (int number : new int[] {least - 1, greatest + 1, MIN, MAX, -least - 1}) {
            int[] told = {5, 5, 5};
            told[which] = number;
            e.is("stone with " + number, new SkipStones().stone(told[0], told[1], told[2]), -2);
        }
        for (int number : new int[] {least, greatest}) {
            int[] told = {5, 5, 5};
            told[which] = number;
            SkipStones x = new SkipStones();
            e.is("stone with " + number, x.stone(told[0], told[1], told[2]), 0);
            e.is("it has " + number, x.ofStone(0, which), number);
        }
    }

    private void lawTerms() {
        e.of(TERMS, "THE LAW (letter; least, greatest, at first): LIFT (l; 1, 99, 20),", () -> numberOfLaw(0, 1, 99, 20));
        e.of(TERMS, "RUB (r; 0, 50, 5),", () -> numberOfLaw(1, 0, 50, 5));
        e.of(TERMS, "UP (u; 1, 99, 80),", () -> numberOfLaw(2, 1, 99, 80));
        e.of(TERMS, "SPIN NEEDED (s; 0, 99, 20),", () -> numberOfLaw(3, 0, 99, 20));
        e.of(TERMS, "NEAR (k; 0, 50, 6),", () -> numberOfLaw(4, 0, 50, 6));
        e.of(TERMS, "HARD (h; 1, 45, 20).", () -> numberOfLaw(5, 1, 45, 20));
    }

    private void numberOfLaw(int what, int least, int greatest, int atFirst) {
        char letter = LETTERS.charAt(what);
        SkipStones x = new SkipStones();
        e.is("at first", x.rule(what), atFirst);
        e.is("the least", Due.law(x, "" + letter + least), 1);
        e.is("it is so", x.rule(what), least);
        e.is("the greatest", Due.law(x, "" + letter + greatest), 1);
        e.is("it is so", x.rule(what), greatest);
        if (least > 0) {
            e.is("less than the least", Due.law(x, "" + letter + (least - 1)), -101);
        }
        // Of three digits the third is one that no text goes on with.
        e.is("more than the greatest", Due.law(x, "" + letter + (greatest + 1)), greatest == 99 ? -103 : -101);
        e.is("below 0", Due.law(x, letter + "-1"), -101);
        e.is("it stays", x.rule(what), greatest);
        for (int other = 0; other < LETTERS.length(); other++) {
            if (other != what) {
                e.is("rule(" + other + ") is another's", x.rule(other), new SkipStones().rule(other));
            }
        }
    }

    private void textTerms() {
        e.of(TERMS, "By a TEXT: 1 to 6 items with ; between:", () -> texts(
            new String[] {"", ";", "l1", "l1;r1", "l1;r1;u1;s1;k1;h1", "h1;k1;s1;u1;r1;l1", "l1;r1;u1;s1;k1;h1;l1",
                "l1r1", "l1,r1", "l1;;r1", ";l1"},
            new int[] {-100, -100, 1, 2, 6, 6, -117, -102, -102, -103, -100}));
        e.of(TERMS, "a letter, none twice,", () -> {
            for (char letter : LETTERS.toCharArray()) {
                char other = letter == 'k' ? 'l' : 'k';
                e.is("law of just a letter, " + letter, Due.law(new SkipStones(), "" + letter + "9"), 1);
                e.is("law of twice " + letter, Due.law(new SkipStones(), letter + "9;" + letter + "9"), -103);
                e.is("law of twice " + letter + " with another between",
                    Due.law(new SkipStones(), letter + "9;" + other + "10;" + letter + "9"), -107);
            }
            texts(new String[] {"1", "l1;1", "L1", "ll1", "l1;r1;u1;s1;k1;l"}, new int[] {-100, -103, -100, -101, -115});
            SkipStones x = new SkipStones();
            Due.law(x, "l5");
            e.is("a letter of the law before may come again", Due.law(x, "l6"), 1);
            Due.law(x, "l5;x");
            e.is("and one of a text with a fault", Due.law(x, "l7"), 1);
            e.is("rule(0)", x.rule(0), 7);
        });
        e.of(TERMS, "and its number, of one or two digits, as told;", () -> {
            texts(new String[] {"r0", "r5", "r05", "r00", "r50", "r005", "r500", "r", "r;", "r-5", "r+5", "r 5"},
                new int[] {1, 1, 1, 1, 1, -103, -103, -101, -101, -101, -101, -101});
            SkipStones x = new SkipStones();
            Due.law(x, "s07;k10;h1");
            rules(x, 20, 5, 80, 7, 10, 1);
        });
        e.of(TERMS, "those that are not told are as at first.", () -> {
            SkipStones x = new SkipStones();
            Due.law(x, "l1;r2;u3;s4;k5;h6");
            rules(x, 1, 2, 3, 4, 5, 6);
            Due.law(x, "u7");
            rules(x, 20, 5, 7, 20, 6, 20);
            Due.law(x, "h8;l9");
            rules(x, 9, 5, 80, 20, 6, 8);
        });
        faultTerms();
    }

    private void faultTerms() {
        e.of(TERMS, "FIRST FAULT: the place (from 0 on) of the first code with which no TEXT goes on;", () -> {
            texts(new String[] {"x", "5", " l1", "lx", "l;", "l1x", "l1 ", "l12x", "l123", "l1;x", "l1;5", "l1;;",
                    "l1;rx", "l1;r1x", "l1;r1;u1;s1;k1;x", "l1;r1;u1;s1;k1;h1x", "xl0", "lxr51"},
                new int[] {-100, -100, -100, -101, -101, -102, -102, -103, -103, -103, -103, -103,
                    -104, -105, -115, -117, -100, -101});
            SkipStones x = new SkipStones();
            Due.write(x, 0, 0, 0, 0, 'l', '1', 'x');
            e.is("counted from the first code that is taken", x.law(0, 0, 2, 3), -102);
        });
        e.of(TERMS, "how many codes there are, if it just ends too soon;", () -> {
            texts(new String[] {"", "l", "l1;", "l12;", "l1;r", "l1;r1;", "l1;r1;u1;s1;k1;", "l1;r1;u1;s1;k1;h"},
                new int[] {-100, -101, -103, -104, -104, -106, -115, -116});
            SkipStones x = new SkipStones();
            Due.write(x, 0, 0, 'l', '1', ';', 'r', '1');
            e.is("what stands in the cells behind is not looked at", x.law(0, 0, 0, 3), -103);
            e.is("nor a digit there", x.law(0, 0, 0, 4), -104);
            e.is("nor ahead", x.law(0, 0, 3, 1), -101);
        });
        e.of(TERMS, "of a number (its one or two digits are looked at ahead of what follows) that is not as told its first"
            + " digit;", () -> texts(
            new String[] {"l0", "l00", "l0;", "l0x", "l0;x", "r51", "r51x", "r510", "r51;", "h46", "h99", "h0", "u0",
                "k51", "l1;h46", "l1;h0x", "l12;u00;l", "r501", "h451", "r5x"},
            new int[] {-101, -101, -101, -101, -101, -101, -101, -101, -101, -101, -101, -101, -101,
                -101, -104, -104, -105, -103, -103, -102}));
        e.of(TERMS, "a ; behind the sixth item can not stand.", () -> texts(
            new String[] {"l1;r1;u1;s1;k1;h1;", "l1;r1;u1;s1;k1;h1;l", "l1;r1;u1;s1;k1;h1;;", "l11;r11;u11;s11;k11;h11;",
                "l1;r1;u1;s1;k1;"},
            new int[] {-117, -117, -117, -123, -115}));
        e.of(TERMS, "(Codes: l 108, r 114, u 117, s 115, k 107, h 104, ; 59, digits 48 .. 57.)", this::codes);
    }

    private int lawOfCodes(int... codes) {
        SkipStones x = new SkipStones();
        Due.write(x, 0, 2, codes);
        return x.law(0, 2, 0, codes.length);
    }

    private void codes() {
        for (int code = -300; code <= 400; code++) {
            boolean isLetter = code == 108 || code == 114 || code == 117 || code == 115 || code == 107 || code == 104;
            boolean isDigit = code >= 48 && code <= 57;
            e.is("law of " + code, lawOfCodes(code), isLetter ? -101 : -100);
            e.is("law of 115, " + code, lawOfCodes(115, code), isDigit ? 1 : -101);
            e.is("law of 115, 49, " + code, lawOfCodes(115, 49, code), isDigit ? 1 : code == 59 ? -103 : -102);
        }
        e.is("law of 115, 57, 57", lawOfCodes(115, 57, 57), 1);
        e.is("law of 65536 above", lawOfCodes(108 + 65536, 49), -100);
        e.is("law of the least", lawOfCodes(MIN, 49), -100);
        e.is("law of the greatest", lawOfCodes(115, MAX), -101);
    }

    private void waveTerms() {
        e.of(TERMS, "WAVES: a row of 1 to 20 numbers", () -> {
            for (int n = 0; n <= 60; n++) {
                SkipStones x = new SkipStones();
                boolean stands = n >= 1 && n <= 20;
                e.is("waves of " + n, Due.waves(x, new int[n]), stands ? n : -2);
                e.is("many(2)", x.many(2), stands ? n : 1);
            }
        });
        e.of(TERMS, "-9 .. 9", () -> {
            for (int number : new int[] {-10, 10, MIN, MAX, 265, -256}) {
                SkipStones x = new SkipStones();
                e.is("waves of " + number, Due.waves(x, number), -2);
                e.is("waves ending in " + number, Due.waves(x, 1, 2, number), -2);
                e.is("they stay", x.many(2) * 100 + x.wave(0), 100);
            }
            SkipStones x = new SkipStones();
            e.is("waves of -9, 9", Due.waves(x, -9, 9), 2);
            e.is("wave(0)", x.wave(0), -9);
            e.is("wave(1)", x.wave(1), 9);
        });
        e.of(TERMS, "(one 0 at first)", () -> {
            SkipStones x = new SkipStones();
            e.is("many(2)", x.many(2), 1);
            e.is("wave(0)", x.wave(0), 0);
            x.shift(19);
            e.is("wave(99999)", x.wave(99999), 0);
        });
        e.of(TERMS, "and a SHIFT (0 .. 19; 0 at first):", () -> {
            SkipStones x = new SkipStones();
            e.is("at first", x.shift(19), 0);
            for (int v : new int[] {-1, 20, MIN, MAX}) {
                e.is("shift(" + v + ")", x.shift(v), -2);
            }
            e.is("the greatest", x.shift(0), 19);
            e.is("the least", x.shift(0), 0);
        });
        e.of(TERMS, "at a place X the number of (X and SHIFT) by how many there are, what is left over.", () -> {
            SkipStones x = new SkipStones();
            Due.waves(x, 4, 5, 6);
            int[] want = {4, 5, 6, 4, 5, 6, 4};
            for (int shift = 0; shift <= 3; shift++) {
                x.shift(shift);
                for (int p = 0; p <= 3; p++) {
                    e.is("wave(" + p + ") by " + shift, x.wave(p), want[p + shift]);
                }
            }
            x.shift(19);
            e.is("19 by 3 leave 1", x.wave(0), 5);
            e.is("99999 and 19 by 3 leave 1", x.wave(99999), 5);
            e.is("99998 and 19 by 3 leave 0", x.wave(99998), 4);
        });
    }

    // ---- promises

    private void newObject() {
        e.of(1, "No STONES, no throw is kept, SHEETS have nothing.", () -> {
            SkipStones x = new SkipStones();
            e.is("many(0)", x.many(0), 0);
            e.is("ofStone(0, 0)", x.ofStone(0, 0), -1);
            e.is("toss(0, ..)", x.toss(0, 100, 30, 10, 50), -1);
            e.is("many(1)", x.many(1), 0);
            e.is("judge(0)", x.judge(0), -3);
            e.is("touch(0, 0)", x.touch(0, 0), -1);
            for (int k = 0; k < 4; k++) {
                e.is("lose(" + k + ")", x.lose(k), 0);
                e.is("put(" + k + ", 0, 0)", x.put(k, 0, 0), -11);
            }
            SkipStones other = new SkipStones();
            other.stone(1, 1, 1);
            other.toss(0, 1, 1, 1, 1);
            other.sheet(0, 0, 1);
            e.is("another object's stones", x.many(0) + new SkipStones().many(0), 0);
            e.is("another object's throw", x.many(1) + new SkipStones().many(1), 0);
            e.is("another object's sheet", x.lose(0) + new SkipStones().lose(0), 0);
        });
    }

    private void stones() {
        e.of(2, "A STONE: its number.", () -> {
            SkipStones x = new SkipStones();
            e.is("stone(1, 1, 0)", x.stone(1, 1, 0), 0);
            e.is("stone(1, 1, 0), alike", x.stone(1, 1, 0), 1);
            e.is("many(0)", x.many(0), 2);
        });
        e.of(2, "OUTSIDE;", () -> {
            int[][] outside = {{0, 1, 0}, {100, 1, 0}, {1, 0, 0}, {1, 100, 0}, {1, 1, -1}, {1, 1, 10},
                {MIN, 1, 0}, {1, MAX, 0}, {1, 1, MIN}, {0, 0, -1}};
            SkipStones x = new SkipStones();
            for (int[] s : outside) {
                e.is("stone(" + s[0] + ", " + s[1] + ", " + s[2] + ")", x.stone(s[0], s[1], s[2]), -2);
            }
            e.is("many(0)", x.many(0), 0);
        });
        e.of(2, "FULL.", () -> {
            SkipStones x = new SkipStones();
            for (int s = 0; s < 7; s++) {
                x.stone(1, 1, 1);
            }
            e.is("the eighth", x.stone(8, 8, 8), 7);
            e.is("the ninth", x.stone(9, 9, 9), -4);
            e.is("OUTSIDE comes first", x.stone(9, 9, 10), -2);
            e.is("the eighth stays", x.ofStone(7, 0), 8);
            e.is("there is no ninth", x.ofStone(8, 0), -1);
        });
        e.of(3, "Of a STONE: 0 WEIGHT, 1 WIDE, 2 ROUGH, 3 how many of it on the BEACH, 4 its worth there.", () -> {
            SkipStones x = new SkipStones();
            x.stone(99, 98, 9);
            x.stone(1, 2, 0);
            x.beach(1, 9, 97);
            int[][] want = {{99, 98, 9, 0, 0}, {1, 2, 0, 9, 97}};
            for (int s = 0; s < 2; s++) {
                for (int what = 0; what < 5; what++) {
                    e.is("ofStone(" + s + ", " + what + ")", x.ofStone(s, what), want[s][what]);
                }
            }
        });
        e.of(3, "UNKNOWN;", () -> {
            SkipStones x = new SkipStones();
            e.is("none is there", x.ofStone(0, 0), -1);
            x.stone(1, 1, 1);
            for (int s : new int[] {-1, 1, 7, 8, MIN, MAX}) {
                e.is("ofStone(" + s + ", 0)", x.ofStone(s, 0), -1);
                e.is("ofStone(" + s + ", 5): the first of both", x.ofStone(s, 5), -1);
            }
        });
        e.of(3, "OUTSIDE.", () -> {
            SkipStones x = new SkipStones();
            x.stone(1, 1, 1);
            for (int what : new int[] {-1, 5, MIN, MAX}) {
                e.is("ofStone(0, " + what + ")", x.ofStone(0, what), -2);
            }
        });
    }

    private void laws() {
        e.of(4, "THE LAW by a TEXT of n cells of a SHEET from i on, taken as a row of a LANE: how many items;", () -> {
            for (int lane = 0; lane < 3; lane++) {
                SkipStones x = new SkipStones();
                Due.write(x, lane, lane, 's', '1', 'l', '1', '2', ';', 'r', '3', '4');
                e.is("from 2 on, 3", x.law(lane, lane, 2, 3), 1);
                rules(x, 12, 5, 80, 20, 6, 20);
                e.is("from 2 on, 7, to the end", x.law(lane, lane, 2, 7), 2);
                rules(x, 12, 34, 80, 20, 6, 20);
                e.is("from 0 on, 2", x.law(lane, lane, 0, 2), 1);
                rules(x, 20, 5, 80, 1, 6, 20);
            }
        });
        e.of(4, "-100 less the FIRST FAULT (THE LAW stays then).", () -> {
            SkipStones x = new SkipStones();
            Due.law(x, "l9;r9;u9;s9;k9;h9");
            String[] texts = {"", "x", "l1;", "l1;r51", "l1;r2;u3;s4;k5;h6;", "l1;l1"};
            int[] want = {-100, -100, -103, -104, -117, -103};
            for (int t = 0; t < texts.length; t++) {
                e.is("law \"" + texts[t] + "\"", Due.law(x, texts[t]), want[t]);
                rules(x, 9, 9, 9, 9, 9, 9);
            }
        });
        new CellEdges(e, 4, "law", SkipStones::law).all("CAST (nothing is no CAST);", "SIZE: n below 0;");
        e.of(4, "-100 less it.", () -> {
            SkipStones x = new SkipStones();
            Due.write(x, 0, 0, 'l', '0', 'x');
            x.put(0, 9, 9);
            e.is("law of a number that is not as told", x.law(0, 0, 0, 3), -101);
            e.is("it is no fault of the machine", x.fault(), 0);
            e.is("of none, at the end", x.law(0, 0, 3, 0), -100);
            StringBuilder sixty = new StringBuilder("l1;r1;u1;s1;k1;h1");
            sixty.append(";".repeat(60 - sixty.length()));
            e.is("of sixty", Due.law(x, sixty.toString()), -117);
        });
        e.of(5, "A number of THE LAW: 0 LIFT, 1 RUB, 2 UP, 3 SPIN NEEDED, 4 NEAR, 5 HARD.", () -> {
            SkipStones x = new SkipStones();
            rules(x, 20, 5, 80, 20, 6, 20);
            Due.law(x, "l99;r50;u98;s97;k49;h45");
            rules(x, 99, 50, 98, 97, 49, 45);
        });
        e.of(5, "UNKNOWN.", () -> {
            for (int what : new int[] {-1, 6, MIN, MAX}) {
                e.is("rule(" + what + ")", new SkipStones().rule(what), -1);
            }
        });
    }

    private void waves() {
        e.of(6, "WAVES by n such cells: n (SHIFT stays).", () -> {
            for (int lane = 0; lane < 3; lane++) {
                SkipStones x = new SkipStones();
                x.shift(1);
                Due.write(x, lane, lane, 9, 1, 2, 3);
                e.is("from 1 on, 2", x.waves(lane, lane, 1, 2), 2);
                e.is("wave(0)", x.wave(0), 2);
                e.is("wave(1)", x.wave(1), 1);
                e.is("the last alone", x.waves(lane, lane, 3, 1), 1);
                e.is("wave(0)", x.wave(0), 3);
                e.is("all", x.waves(lane, lane, 0, 4), 4);
                e.is("wave(3)", x.wave(3), 9);
                x.put(lane, 0, 7);
                e.is("what comes to the cells later is no wave", x.wave(3), 9);
                e.is("shift(0)", x.shift(0), 1);
            }
        });
        new CellEdges(e, 6, "waves", SkipStones::waves).all("CAST;", "SIZE;");
        e.of(6, "OUTSIDE: n is not 1 .. 20, a number.", () -> {
            SkipStones x = new SkipStones();
            Due.waves(x, 1, 2);
            x.sheet(0, 2, 22);
            for (int n : new int[] {0, 21, 22}) {
                x.put(0, 60, 0);
                e.is("waves of " + n, x.waves(0, 2, 0, n), -2);
                e.is("fault()", x.fault(), 0);
            }
            e.is("INDEX comes first", x.waves(0, 2, 0, 23), -13);
            e.is("INDEX comes first of none", x.waves(0, 2, 23, 0), -13);
            x.put(0, 19, 10);
            e.is("the twentieth is 10", x.waves(0, 2, 0, 20), -2);
            e.is("nineteen", x.waves(0, 2, 0, 19), 19);
            x.put(0, 19, -10);
            e.is("the twentieth is -10", x.waves(0, 2, 0, 20), -2);
            x.put(0, 19, -9);
            e.is("the twentieth is -9", x.waves(0, 2, 0, 20), 20);
            x.put(0, 0, 10);
            e.is("the first is 10", x.waves(0, 2, 0, 20), -2);
            e.is("they stay", x.wave(19), -9);
        });
        e.of(7, "SHIFT becomes v: what it was.", () -> {
            SkipStones x = new SkipStones();
            int was = 0;
            for (int v : new int[] {1, 19, 19, 0, 0, 7}) {
                e.is("shift(" + v + ")", x.shift(v), was);
                was = v;
            }
        });
        e.of(7, "OUTSIDE.", () -> {
            SkipStones x = new SkipStones();
            x.shift(3);
            for (int v : new int[] {-1, 20, MIN, MAX}) {
                e.is("shift(" + v + ")", x.shift(v), -2);
            }
            e.is("it stays", x.shift(0), 3);
        });
        e.of(8, "The WAVE at X (0 .. 99999).", () -> {
            SkipStones x = new SkipStones();
            Due.waves(x, 1, 2, 3, 4, 5, 6, 7);
            e.is("wave(0)", x.wave(0), 1);
            e.is("wave(99999): 99999 by 7 leaves 4", x.wave(99999), 5);
        });
        e.of(8, "OUTSIDE answers -99.", () -> {
            for (int p : new int[] {-1, 100000, MIN, MAX}) {
                e.is("wave(" + p + ")", new SkipStones().wave(p), -99);
            }
        });
    }
}
