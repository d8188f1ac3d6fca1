/** The edges of throws and judges: promises 9 to 11 and their terms. */
final class ThrowEdges {
    private static final int MIN = Integer.MIN_VALUE, MAX = Integer.MAX_VALUE;
    private static final int TERMS = Edges.TERMS;
    private static final int SUNK = 0, CLEAN = 1, SKATING = 2, STEEP = 3;
    private static final int KIND = 0, X = 1, SPEED = 2, FALL = 3, SLANT = 4, SPIN = 5, TILT = 6, TAKEN = 7, BEAT = 8;

    private final Edges e;

    ThrowEdges(Edges e) {
        this.e = e;
    }

    void all() {
        throwTerms();
        sinking();
        losing();
        wobbling();
        ending();
        judgeTerms();
        tosses();
        touches();
        judges();
    }

    private static SkipStones with(int weight, int wide, int rough, String law) {
        SkipStones x = new SkipStones();
        x.stone(weight, wide, rough);
        if (!law.isEmpty()) {
            Due.law(x, law);
        }
        return x;
    }

    /** SPEED times TILT by 10 lifts it: with FALL 40 it sinks below 50. */
    private static SkipStones plain() {
        return with(1, 20, 0, "");
    }

    private void touch(SkipStones x, int k, int what, int want) {
        e.is("touch(" + k + ", " + what + ")", x.touch(k, what), want);
    }

    /** A throw is tossed, and a touch of it is told. */
    private void tossed(SkipStones x, int speed, int fall, int slant, int spin, int k, int what, int want) {
        x.toss(0, speed, fall, slant, spin);
        e.is("touch(" + k + ", " + what + ") of (" + speed + ", " + fall + ", " + slant + ", " + spin + ")",
            x.touch(k, what), want);
    }

    private void kind(SkipStones x, int speed, int fall, int slant, int want) {
        tossed(x, speed, fall, slant, 99, 0, KIND, want);
    }

    // ---- terms

    private void throwTerms() {
        e.of(TERMS, "2 A THROW: SPEED (1 .. 300),", () -> spanOfThrow(0, 1, 300));
        e.of(TERMS, "FALL (1 .. 99),", () -> spanOfThrow(1, 1, 99));
        e.of(TERMS, "SLANT (0 .. 45),", () -> spanOfThrow(2, 0, 45));
        e.of(TERMS, "SPIN (0 .. 99);", () -> spanOfThrow(3, 0, 99));
        e.of(TERMS, "the first TOUCH is at X 0.", () -> {
            SkipStones x = plain();
            Due.waves(x, 1, 2, 3);
            x.toss(0, 100, 40, 10, 99);
            touch(x, 0, X, 0);
            touch(x, 0, TILT, 11);
            x.shift(2);
            x.toss(0, 1, 40, 10, 99);
            touch(x, 0, X, 0);
            touch(x, 0, TILT, 13);
        });
        e.of(TERMS, "A TOUCH, with TILT = SLANT and the WAVE there: it is", () -> {
            SkipStones x = plain();
            Due.waves(x, 3, -4);
            // 100*(5+13)/100+1 = 19, 81*32/20 = 129, an odd place.
            x.toss(0, 100, 40, 10, 99);
            touch(x, 0, TILT, 13);
            touch(x, 0, SLANT, 10);
            touch(x, 1, X, 129);
            touch(x, 1, TILT, 6);
            touch(x, 1, SLANT, 10);
            Due.waves(x, -9);
            x.toss(0, 100, 40, 0, 99);
            touch(x, 0, TILT, -9);
            Due.waves(x, 9);
            x.toss(0, 100, 40, 45, 99);
            touch(x, 0, TILT, 54);
        });
    }

    private void spanOfThrow(int which, int least, int greatest) {
        for (int number : new int[] {least - 1, greatest + 1, MIN, MAX}) {
            int[] t = {100, 40, 10, 50};
            t[which] = number;
            SkipStones x = plain();
            e.is("toss with " + number, x.toss(0, t[0], t[1], t[2], t[3]), -2);
            e.is("none is kept", x.many(1), 0);
        }
        for (int number : new int[] {least, greatest}) {
            int[] t = {100, 40, 10, 50};
            t[which] = number;
            SkipStones x = plain();
            e.is("toss with " + number + " goes", x.toss(0, t[0], t[1], t[2], t[3]) > 0 ? 1 : 0, 1);
            touch(x, 0, which + SPEED, number);
        }
    }

    private void sinking() {
        e.of(TERMS, "SUNK, if TILT is below 1 or above 45,", () -> {
            SkipStones x = with(1, 99, 0, "");
            kind(x, 300, 1, 0, SUNK);
            kind(x, 300, 1, 1, SKATING);
            kind(x, 300, 1, 45, STEEP);
            Due.waves(x, 1);
            kind(x, 300, 1, 0, SKATING);
            kind(x, 300, 1, 44, STEEP);
            kind(x, 300, 1, 45, SUNK);
            Due.waves(x, -9);
            kind(x, 300, 1, 0, SUNK);
            kind(x, 300, 1, 9, SUNK);
            kind(x, 300, 1, 10, SKATING);
            Due.waves(x, 9);
            kind(x, 300, 1, 36, STEEP);
            kind(x, 300, 1, 37, SUNK);
            kind(x, 300, 1, 45, SUNK);
        });
        e.of(TERMS, "or SPEED times WIDE times TILT by (10 times LIFT) is less than WEIGHT times (FALL and 10):", () -> {
            SkipStones x = plain();
            kind(x, 49, 40, 10, SUNK);
            kind(x, 50, 40, 10, CLEAN);
            kind(x, 50, 41, 10, SUNK);
            kind(x, 50, 40, 9, SUNK);
            // 49.5 and 50.6, cut.
            kind(x, 45, 40, 11, SUNK);
            kind(x, 46, 40, 11, CLEAN);
            kind(with(2, 20, 0, ""), 99, 40, 10, SUNK);
            kind(with(2, 20, 0, ""), 100, 40, 10, CLEAN);
            kind(with(1, 10, 0, ""), 99, 40, 10, SUNK);
            kind(with(1, 10, 0, ""), 100, 40, 10, CLEAN);
            kind(with(1, 20, 0, "l40"), 99, 40, 10, SUNK);
            kind(with(1, 20, 0, "l40"), 100, 40, 10, CLEAN);
            // The greatest numbers: 300*99*45/10 = 133650, 99*109 = 10791.
            kind(with(99, 99, 9, "l1"), 300, 99, 45, STEEP);
            kind(with(99, 99, 9, "l99"), 300, 99, 45, SUNK);
        });
        e.of(TERMS, "that is the end.", () -> {
            SkipStones x = plain();
            e.is("toss that sinks at once", x.toss(0, 49, 40, 10, 99), 1);
            touch(x, 1, KIND, -1);
            // 100, then 47 at X 94, then 22 at X 138: 22*21/10 = 46.
            e.is("toss that sinks third", x.toss(0, 100, 40, 21, 99), 3);
            touch(x, 1, KIND, STEEP);
            touch(x, 2, KIND, SUNK);
            touch(x, 3, KIND, -1);
        });
        e.of(TERMS, "STEEP else, if TILT is above HARD:", () -> {
            SkipStones x = plain();
            kind(x, 100, 40, 20, CLEAN);
            kind(x, 100, 40, 21, STEEP);
            // 23*21/10 = 48 sinks, 50 does not.
            kind(x, 23, 40, 21, SUNK);
            kind(x, 24, 40, 21, STEEP);
            kind(x, 100, 1, 21, STEEP);
            Due.waves(x, 1);
            kind(x, 100, 40, 19, CLEAN);
            kind(x, 100, 40, 20, STEEP);
            Due.waves(x, 0);
            Due.law(x, "h45");
            kind(x, 100, 40, 45, CLEAN);
            Due.law(x, "h1");
            kind(x, 300, 1, 1, SKATING);
            kind(x, 300, 1, 2, STEEP);
        });
    }

    private void losing() {
        e.of(TERMS, "SPEED becomes less by its quotient of SPEED times (RUB and TILT and ROUGH) by 50, and 1; FALL stays.",
            () -> {
                SkipStones x = plain();
                x.toss(0, 100, 40, 21, 99);
                touch(x, 0, TAKEN, 53);
                touch(x, 1, SPEED, 47);
                touch(x, 1, FALL, 40);
                // 99*26/50 = 51, cut.
                tossed(x, 99, 40, 21, 99, 0, TAKEN, 52);
                tossed(x, 99, 40, 21, 99, 1, SPEED, 47);
                tossed(with(1, 20, 2, ""), 100, 40, 21, 99, 0, TAKEN, 57);
                tossed(with(1, 20, 0, "r0"), 100, 40, 21, 99, 0, TAKEN, 43);
                tossed(with(1, 20, 0, "u1;h1;l1"), 100, 1, 2, 99, 1, FALL, 1);
                tossed(with(1, 20, 0, "u1;h1;l1"), 100, 40, 5, 99, 1, FALL, 40);
                // 1*(0+21+0)/50 = 0: 1 at least.
                tossed(with(1, 99, 0, "r0;l1"), 1, 1, 21, 99, 0, TAKEN, 1);
            });
        e.of(TERMS, "Else SPEED becomes less by the quotient of SPEED times (RUB and TILT and ROUGH) by 100, and 1;", () -> {
            SkipStones x = plain();
            tossed(x, 100, 40, 10, 99, 0, TAKEN, 16);
            touch(x, 1, SPEED, 84);
            // 99*15/100 = 14, cut.
            tossed(x, 99, 40, 10, 99, 0, TAKEN, 15);
            touch(x, 1, SPEED, 84);
            tossed(with(1, 20, 9, ""), 100, 40, 10, 99, 0, TAKEN, 25);
            tossed(with(1, 20, 0, "r0"), 100, 40, 10, 99, 0, TAKEN, 11);
            tossed(with(1, 20, 0, "r50"), 100, 40, 10, 99, 0, TAKEN, 61);
            tossed(x, 100, 8, 10, 99, 0, TAKEN, 16);
            tossed(with(1, 99, 0, "r0;l1"), 2, 1, 20, 99, 0, TAKEN, 1);
        });
        e.of(TERMS, "FALL becomes FALL times UP by 100, 1 at least;", () -> {
            SkipStones x = plain();
            tossed(x, 100, 40, 10, 99, 1, FALL, 32);
            tossed(x, 100, 41, 10, 99, 1, FALL, 32);
            tossed(x, 100, 1, 10, 99, 1, FALL, 1);
            tossed(with(1, 20, 0, "u1"), 200, 99, 10, 99, 1, FALL, 1);
            tossed(with(1, 20, 0, "u1"), 200, 99, 10, 99, 2, FALL, 1);
            tossed(with(1, 20, 0, "u99"), 200, 99, 10, 99, 1, FALL, 98);
            tossed(with(1, 20, 0, "u50"), 200, 3, 10, 99, 1, FALL, 1);
            tossed(with(1, 20, 0, "u50"), 200, 4, 10, 99, 1, FALL, 2);
        });
        e.of(TERMS, "it is SKATING, if FALL is NEAR or less then, else CLEAN.", () -> {
            SkipStones x = plain();
            // 8*80/100 = 6, 9*80/100 = 7.
            kind(x, 100, 8, 10, SKATING);
            kind(x, 100, 9, 10, CLEAN);
            kind(with(1, 20, 0, "k0"), 100, 1, 10, CLEAN);
            kind(with(1, 20, 0, "k1"), 100, 1, 10, SKATING);
            kind(with(1, 20, 0, "k1"), 100, 2, 10, SKATING);
            kind(with(1, 20, 0, "k1"), 100, 3, 10, CLEAN);
            kind(with(1, 20, 0, "k50;u99"), 100, 51, 10, SKATING);
            kind(with(1, 20, 0, "k50;u99"), 100, 52, 10, CLEAN);
        });
    }

    private void wobbling() {
        e.of(TERMS, "Behind STEEP, SKATING, CLEAN: SPIN becomes less by the quotient of SPIN by 10, and 1 (0 at least);",
            () -> {
                int[] spins = {99, 20, 19, 11, 10, 9, 2, 1, 0};
                int[] want = {89, 17, 17, 9, 8, 8, 1, 0, 0};
                for (int s = 0; s < spins.length; s++) {
                    tossed(plain(), 100, 40, 21, spins[s], 1, SPIN, want[s]);
                    tossed(plain(), 100, 8, 10, spins[s], 1, SPIN, want[s]);
                    tossed(plain(), 100, 40, 10, spins[s], 1, SPIN, want[s]);
                }
            });
        e.of(TERMS, "if SPIN is less than SPIN NEEDED then, SLANT grows by the quotient of (SPIN NEEDED less SPIN) by 5;",
            () -> {
                // 23 becomes 20, 22 19, 18 16, 17 15, 11 9, 0 0.
                int[] spins = {23, 22, 18, 17, 11, 0};
                int[] more = {0, 0, 0, 1, 2, 4};
                for (int s = 0; s < spins.length; s++) {
                    tossed(plain(), 100, 40, 21, spins[s], 1, SLANT, 21 + more[s]);
                    tossed(plain(), 100, 8, 10, spins[s], 1, SLANT, 10 + more[s]);
                    tossed(plain(), 100, 40, 10, spins[s], 1, SLANT, 10 + more[s]);
                }
                // 60 was enough, 53 is not.
                tossed(with(1, 20, 0, "s60"), 100, 40, 10, 60, 1, SLANT, 11);
                tossed(with(1, 20, 0, "s99"), 100, 40, 10, 99, 1, SLANT, 12);
                tossed(with(1, 20, 0, "s99"), 100, 40, 10, 0, 1, SLANT, 29);
                tossed(with(1, 20, 0, "s0"), 100, 40, 10, 0, 1, SLANT, 10);
                // A slant above 45 is none too great by itself.
                SkipStones x = with(1, 20, 0, "s40;l1");
                Due.waves(x, -9);
                x.toss(0, 300, 40, 45, 9);
                touch(x, 1, SLANT, 51);
                touch(x, 1, KIND, STEEP);
            });
    }

    private void ending() {
        e.of(TERMS, "the end, if SPEED is 0 or less (0 then),", () -> {
            SkipStones x = with(1, 99, 0, "l1");
            // 1*15/100+1 = 1: none is left of 1, and 1 of 2.
            e.is("toss of 1", x.toss(0, 1, 1, 10, 99), 1);
            touch(x, 0, KIND, SKATING);
            e.is("toss of 2", x.toss(0, 2, 1, 10, 99), 2);
            touch(x, 1, SPEED, 1);
            touch(x, 1, KIND, SKATING);
            // 100*60/50+1 = 121: less than 0 would be left.
            x = with(1, 99, 0, "l1;h1;r50");
            e.is("toss that loses more than there is", x.toss(0, 100, 1, 10, 99), 1);
            touch(x, 0, KIND, STEEP);
            e.is("far of it", x.judge(4), 0);
        });
        e.of(TERMS, "or there were 90 TOUCHES;", () -> {
            // Each touch takes 1, and at a SPEED of 1 it sinks.
            SkipStones x = with(1, 99, 0, "r0;s0;l1");
            e.is("toss of 89", x.toss(0, 89, 1, 1, 99), 89);
            touch(x, 88, KIND, SUNK);
            e.is("toss of 90", x.toss(0, 90, 1, 1, 99), 90);
            touch(x, 89, KIND, SUNK);
            e.is("toss of 91", x.toss(0, 91, 1, 1, 99), 90);
            touch(x, 89, KIND, SKATING);
            touch(x, 89, SPEED, 2);
            touch(x, 89, TAKEN, 1);
            touch(x, 90, KIND, -1);
            e.is("many(1)", x.many(1), 90);
            e.is("toss of 300", x.toss(0, 300, 99, 1, 99), 90);
            e.is("judge(0)", x.judge(0), 90);
            e.is("judge(4)", x.judge(4), x.touch(89, 1));
        });
        e.of(TERMS, "else it flies to X and the quotient of SPEED times FALL by 20, in FALL by 5 BEATS (a quotient), where"
            + " the next TOUCH is.", () -> {
                SkipStones x = plain();
                // 84*32/20 = 134, 32/5 = 6; then 71*25/20 = 88, 25/5 = 5.
                x.toss(0, 100, 40, 10, 99);
                touch(x, 1, X, 134);
                touch(x, 1, BEAT, 6);
                touch(x, 2, X, 222);
                touch(x, 2, BEAT, 11);
                // Steep: 47*40/20 = 94, 40/5 = 8.
                x.toss(0, 100, 40, 21, 99);
                touch(x, 1, X, 94);
                touch(x, 1, BEAT, 8);
                // 84*4/20 = 16, 4/5 = 0.
                x.toss(0, 100, 5, 10, 99);
                touch(x, 1, X, 16);
                touch(x, 1, BEAT, 0);
                // 16*1/20 = 0: it comes down where it was.
                x = with(1, 99, 0, "l1");
                x.toss(0, 20, 1, 10, 99);
                touch(x, 1, X, 0);
                touch(x, 1, BEAT, 0);
            });
        e.of(TERMS, "TOUCHES are of a kind: 0 SUNK; 1 CLEAN; 2 SKATING, a CLEAN; 3 STEEP, a CLEAN (each is a TOUCH).",
            this::kinds);
    }

    private void kinds() {
        int[][] of = {{49, 40, 10}, {100, 40, 10}, {100, 8, 10}, {100, 40, 21}};
        int[][] as = {{1, -12, -12, -12}, {1, 1, -12, -12}, {1, 1, 1, -12}, {1, 1, -12, 1}};
        for (int kind = 0; kind < 4; kind++) {
            SkipStones x = plain();
            kind(x, of[kind][0], of[kind][1], of[kind][2], kind);
            for (int taken = 0; taken < 4; taken++) {
                e.is("as(0, " + taken + ") of " + kind, x.as(0, taken), as[kind][taken]);
            }
        }
    }

    private void judged(SkipStones x, int speed, int fall, int slant, int j, int want) {
        x.toss(0, speed, fall, slant, 99);
        e.is("judge(" + j + ") of (" + speed + ", " + fall + ", " + slant + ")", x.judge(j), want);
    }

    private void judgeTerms() {
        e.of(TERMS, "3 JUDGES: 0 counts all but SUNK;", () -> {
            judged(plain(), 49, 40, 10, 0, 0);
            judged(plain(), 100, 40, 21, 0, 2);
            // Thirteen skate, then one sinks.
            judged(plain(), 100, 7, 10, 0, 13);
            judged(with(1, 99, 0, "r0;s0;l1"), 91, 1, 1, 0, 90);
            judged(with(1, 99, 0, "r0;s0;l1"), 90, 1, 1, 0, 89);
        });
        e.of(TERMS, "1 just CLEAN and STEEP (SKATING ones not);", () -> {
            judged(plain(), 49, 40, 10, 1, 0);
            judged(plain(), 100, 40, 21, 1, 2);
            judged(plain(), 100, 7, 10, 1, 0);
            // 40 32 25 20 16 12 9 are clean, 7 is not.
            judged(plain(), 100, 40, 10, 1, 7);
        });
        e.of(TERMS, "2 all but SUNK whose X is 3 or more behind that of the one that it counted last (the first in any"
            + " case);", this::places);
        e.of(TERMS, "3 (by ear) all, SUNK, too, but such as come less than 2 BEATS behind the one ahead (whatever it was).",
            this::beats);
        e.of(TERMS, "FAR: X of the last TOUCH.", () -> {
            judged(plain(), 49, 40, 10, 4, 0);
            judged(plain(), 100, 40, 21, 4, 138);
            judged(plain(), 100, 40, 10, 4, 385);
            judged(with(1, 99, 0, "r50;s0;l1"), 130, 1, 1, 4, 4);
        });
    }

    private void places() {
        // A half and more is taken each time, and FALL 1 flies SPEED by 20.
        SkipStones x = with(1, 99, 0, "r50;s0;l1");
        // SPEED 130 63 30 14 6 2: X 0 3 4 4 4 4, the second just 3 behind.
        judged(x, 130, 1, 1, 2, 2);
        touch(x, 1, X, 3);
        touch(x, 2, X, 4);
        // SPEED 120 58 28 ..: X 0 2 3 3 3 3, the third 1 behind the one ahead, but 3 behind the one that was counted.
        judged(x, 120, 1, 1, 2, 2);
        touch(x, 1, X, 2);
        touch(x, 2, X, 3);
        // SPEED 82 40 19 ..: X 0 2 2 ..
        judged(x, 82, 1, 1, 2, 1);
        touch(x, 1, X, 2);
        touch(x, 2, X, 2);
        // The third sinks, 44 behind the second.
        judged(plain(), 100, 40, 21, 2, 2);
        judged(plain(), 49, 40, 10, 2, 0);
        judged(with(1, 99, 0, "l1"), 1, 1, 10, 2, 1);
    }

    private void beats() {
        // FALL 11 10 9 8 7 6: BEATS 0 2 3 4 5 6. The fourth is 2 behind the one heard last, but 1 behind the one ahead.
        SkipStones x = with(1, 99, 0, "r50;s0;l1;u99");
        judged(x, 130, 11, 1, 3, 2);
        touch(x, 1, BEAT, 2);
        touch(x, 2, BEAT, 3);
        touch(x, 3, BEAT, 4);
        judged(x, 130, 10, 1, 3, 1);
        touch(x, 1, BEAT, 1);
        // A sunk one is heard, at once and late, but not so soon.
        judged(plain(), 49, 40, 10, 3, 1);
        judged(plain(), 100, 40, 21, 3, 3);
        judged(plain(), 100, 7, 10, 3, 1);
    }

    // ---- promises

    private void tosses() {
        e.of(9, "A STONE is thrown, its TOUCHES are kept in place of others: how many.", () -> {
            SkipStones x = plain();
            e.is("toss(0, 100, 40, 10, 99)", x.toss(0, 100, 40, 10, 99), 14);
            e.is("many(1)", x.many(1), 14);
            touch(x, 13, KIND, SUNK);
            e.is("toss(0, 49, 40, 10, 99)", x.toss(0, 49, 40, 10, 99), 1);
            e.is("many(1)", x.many(1), 1);
            touch(x, 0, SPEED, 49);
            touch(x, 1, KIND, -1);
            touch(x, 13, KIND, -1);
            e.is("toss(0, 100, 40, 21, 99)", x.toss(0, 100, 40, 21, 99), 3);
            touch(x, 3, KIND, -1);
            // What comes later does not come to a throw that is kept.
            Due.law(x, "h45;l1");
            Due.waves(x, 5);
            x.shift(1);
            x.best(0, 100, 5, 10, 5, 0, 0);
            e.is("many(1)", x.many(1), 3);
            touch(x, 0, KIND, STEEP);
            touch(x, 0, TILT, 21);
        });
        e.of(9, "UNKNOWN;", () -> {
            e.is("there are none", new SkipStones().toss(0, 1, 1, 1, 1), -1);
            SkipStones x = plain();
            for (int s : new int[] {-1, 1, 8, MIN, MAX}) {
                e.is("toss(" + s + ", ..)", x.toss(s, 100, 40, 10, 99), -1);
                e.is("toss(" + s + ", 0, ..): the first of both", x.toss(s, 0, 0, -1, -1), -1);
            }
        });
        e.of(9, "OUTSIDE.", () -> {
            SkipStones x = plain();
            x.toss(0, 100, 40, 21, 99);
            int[][] outside = {{0, 40, 10, 99}, {301, 40, 10, 99}, {9, 0, 10, 99}, {9, 100, 10, 99}, {9, 40, -1, 99},
                {9, 40, 46, 99}, {9, 40, 10, -1}, {9, 40, 10, 100}, {MAX, MAX, MAX, MAX}, {MIN, MIN, MIN, MIN}};
            for (int[] t : outside) {
                e.is("toss(0, " + t[0] + ", " + t[1] + ", " + t[2] + ", " + t[3] + ")",
                    x.toss(0, t[0], t[1], t[2], t[3]), -2);
            }
            e.is("the others are kept", x.many(1), 3);
        });
    }

    private void touches() {
        e.of(10, "Of the k-th TOUCH kept (k from 0 on): 0 kind, 1 X, 2 SPEED, 3 FALL, 4 SLANT, 5 SPIN as it came, 6 TILT,",
            () -> {
                SkipStones x = plain();
                Due.waves(x, 1);
                x.toss(0, 100, 40, 20, 10);
                // 100*26/50+1 = 53; 10 becomes 8, 12 less than 20: 2 more.
                int[][] want = {{STEEP, 0, 100, 40, 20, 10, 21}, {STEEP, 94, 47, 40, 22, 8, 23}};
                for (int k = 0; k < 2; k++) {
                    for (int what = 0; what < 7; what++) {
                        touch(x, k, what, want[k][what]);
                    }
                }
            });
        e.of(10, "7 what was taken off SPEED (the quotient and 1, perhaps more than there was; SUNK: 0),", () -> {
            SkipStones x = plain();
            tossed(x, 100, 40, 10, 99, 0, TAKEN, 16);
            tossed(x, 100, 40, 21, 99, 0, TAKEN, 53);
            tossed(x, 100, 40, 21, 99, 2, TAKEN, 0);
            tossed(x, 49, 40, 10, 99, 0, TAKEN, 0);
            // 100*(50+45+9)/50+1 = 209, of 100.
            tossed(with(1, 99, 9, "r50"), 100, 1, 45, 99, 0, TAKEN, 209);
            // 300*(50+45+9)/50+1 = 625, of 300.
            tossed(with(1, 99, 9, "r50"), 300, 1, 45, 99, 0, TAKEN, 625);
        });
        e.of(10, "8 the BEAT (0 first).", () -> {
            SkipStones x = plain();
            tossed(x, 100, 40, 10, 99, 0, BEAT, 0);
            touch(x, 1, BEAT, 6);
            touch(x, 2, BEAT, 11);
            tossed(x, 49, 40, 10, 99, 0, BEAT, 0);
        });
        e.of(10, "UNKNOWN;", () -> {
            SkipStones x = plain();
            e.is("none is kept", x.touch(0, 0), -1);
            x.toss(0, 100, 40, 21, 99);
            for (int k : new int[] {-1, 3, 89, 90, MIN, MAX}) {
                e.is("touch(" + k + ", 0)", x.touch(k, 0), -1);
                e.is("touch(" + k + ", 9): the first of both", x.touch(k, 9), -1);
            }
        });
        e.of(10, "OUTSIDE.", () -> {
            SkipStones x = plain();
            x.toss(0, 100, 40, 21, 99);
            for (int what : new int[] {-1, 9, MIN, MAX}) {
                e.is("touch(0, " + what + ")", x.touch(0, what), -2);
                e.is("touch(2, " + what + ")", x.touch(2, what), -2);
            }
        });
    }

    private void judges() {
        e.of(11, "What a JUDGE (0 .. 3), FAR (4) counts of the throw kept.", () -> {
            SkipStones x = plain();
            x.toss(0, 100, 40, 10, 99);
            int[] want = {13, 7, 11, 6, 385};
            for (int j = 0; j < 5; j++) {
                e.is("judge(" + j + ")", x.judge(j), want[j]);
            }
            x.toss(0, 49, 40, 10, 99);
            int[] sunk = {0, 0, 0, 1, 0};
            for (int j = 0; j < 5; j++) {
                e.is("judge(" + j + ") of one that sinks", x.judge(j), sunk[j]);
            }
        });
        e.of(11, "UNKNOWN;", () -> {
            SkipStones x = plain();
            for (int j : new int[] {-1, 5, MIN, MAX}) {
                e.is("judge(" + j + "): the first of both", x.judge(j), -1);
            }
            x.toss(0, 49, 40, 10, 99);
            for (int j : new int[] {-1, 5, MIN, MAX}) {
                e.is("judge(" + j + ")", x.judge(j), -1);
            }
        });
        e.of(11, "STATE: none is kept.", () -> {
            SkipStones x = plain();
            x.toss(0, 0, 40, 10, 99);
            x.toss(1, 100, 40, 10, 99);
            x.best(0, 100, 0, 10, 0, 0, 0);
            x.line(0, 10, 40);
            x.when(0, 100, 10, 0, 0);
            for (int j = 0; j < 5; j++) {
                e.is("judge(" + j + ")", x.judge(j), -3);
            }
            x.toss(0, 49, 40, 10, 99);
            e.is("one is kept", x.judge(0), 0);
        });
    }
}
