import java.util.ArrayList;
import java.util.List;

/** What all refusals and all faults have in common: what they answer, which comes first, and that nothing is changed. */
final class RefusalEdges {
    private static final long LOST = Long.MIN_VALUE;
    private static final int TERMS = Edges.TERMS;
    /** Of a call that names no faults: fault() stays what it was. */
    private static final int STAYS = -1;
    private static final int FAULT_AHEAD = 3;

    private interface Call {
        long on(SkipStones x);
    }

    /** A call on full(), or on bare(), that is refused or comes to a fault. */
    private record Refused(String call, Call made, long answer, int fault, boolean isBare) {
        SkipStones ahead() {
            return isBare ? bare() : full();
        }
    }

    private final Edges e;
    private final List<Refused> refusals = new ArrayList<>();
    private final List<Refused> faults = new ArrayList<>();

    RefusalEdges(Edges e) {
        this.e = e;
        fillWaters();
        fillThrows();
        fillGrids();
        fillBeaches();
        fillSheets();
        fillFaults();
    }

    void all() {
        answers();
        order();
        e.of(TERMS, "They change nothing (but fault(), of a call that names FAULTS).", () -> nothingChanges(refusals));
        faultTerms();
        numbers();
    }

    // ---- objects that have something of all

    private static void stones(SkipStones x, int many) {
        for (int s = 0; s < many; s++) {
            x.stone(1 + s, 20 + s, s);
        }
    }

    private static SkipStones full() {
        SkipStones x = new SkipStones();
        stones(x, 8);
        x.beach(0, 2, 7);
        x.beach(1, 1, 40);
        Due.law(x, "u70;h15");
        Due.waves(x, 1, -1, 0);
        x.shift(2);
        x.grid(40, 70);
        x.toss(0, 100, 40, 10, 70);
        Due.rings(x, x.touch(1, 1), x.touch(2, 1));
        x.tell(0);
        x.hear(0);
        Due.write(x, 0, 0, 5, 6, 70);
        Due.write(x, 1, 1, 300, -2);
        x.put(0, 9, 9);
        return x;
    }

    /** As full(), but no throw is kept, no rings are told, nothing lies on the beach and there is room for stones. */
    private static SkipStones bare() {
        SkipStones x = new SkipStones();
        stones(x, 3);
        Due.waves(x, 1, -1, 0);
        x.shift(2);
        x.grid(40, 70);
        Due.write(x, 0, 0, 5, 6, 70);
        x.put(0, 9, 9);
        return x;
    }

    /** All that an object tells of itself; fault() comes first, since telling the cells changes it. */
    private static List<Long> told(SkipStones x) {
        List<Long> told = new ArrayList<>();
        told.add((long) x.fault());
        told.add((long) x.trace());
        for (int what = 0; what < 4; what++) {
            told.add((long) x.many(what));
        }
        for (int s = 0; s < 8; s++) {
            for (int what = 0; what < 5; what++) {
                told.add((long) x.ofStone(s, what));
            }
        }
        for (int what = 0; what < 6; what++) {
            told.add((long) x.rule(what));
        }
        for (int k = 0; k < Math.min(x.many(1), 15); k++) {
            for (int what = 0; what < 9; what++) {
                told.add((long) x.touch(k, what));
            }
        }
        for (int p = 0; p < 3; p++) {
            told.add((long) x.wave(p));
            told.add((long) x.read(0, 100, 0, 10, 0, p));
            told.add((long) x.judge(p + 2));
        }
        told.add((long) x.best(0, 100, 0, 10, 0, 4, 0));
        told.add(x.mean(2, 0));
        told.add(x.mean(2, 1));
        told.add((long) x.shift(0));
        told.add((long) x.grid(40, 70));
        for (int k = 0; k < 4; k++) {
            for (int cell = 0; cell < 12; cell++) {
                told.add(x.cell(k, cell / 3, cell % 3));
            }
        }
        return told;
    }

    // ---- the calls that are refused

    private void refused(String call, long answer, int fault, Call made) {
        refusals.add(new Refused(call, made, answer, fault, false));
    }

    private void refusedBare(String call, long answer, Call made) {
        refusals.add(new Refused(call, made, answer, STAYS, true));
    }

    private void fault(String call, int fault, Call made) {
        faults.add(new Refused(call, made, -10 - fault, fault, false));
    }

    private void fillWaters() {
        refused("stone(0, 1, 1)", -2, STAYS, x -> x.stone(0, 1, 1));
        refused("stone(1, 100, 1)", -2, STAYS, x -> x.stone(1, 100, 1));
        refused("stone(1, 1, 10)", -2, STAYS, x -> x.stone(1, 1, 10));
        refusedBare("stone(1, 1, -1)", -2, x -> x.stone(1, 1, -1));
        refused("stone(1, 1, 1)", -4, STAYS, x -> x.stone(1, 1, 1));
        refused("ofStone(8, 0)", -1, STAYS, x -> x.ofStone(8, 0));
        refusedBare("ofStone(3, 0)", -1, x -> x.ofStone(3, 0));
        refused("ofStone(0, 5)", -2, STAYS, x -> x.ofStone(0, 5));
        refused("law(4, 0, 0, 1)", -1, 0, x -> x.law(4, 0, 0, 1));
        refused("law(0, 3, 0, 1)", -2, 0, x -> x.law(0, 3, 0, 1));
        refused("law(0, 0, 0, 1)", -100, 0, x -> x.law(0, 0, 0, 1));
        refused("rule(6)", -1, STAYS, x -> x.rule(6));
        refused("waves(4, 0, 0, 1)", -1, 0, x -> x.waves(4, 0, 0, 1));
        refused("waves(0, 3, 0, 1)", -2, 0, x -> x.waves(0, 3, 0, 1));
        refused("waves(0, 0, 0, 0)", -2, 0, x -> x.waves(0, 0, 0, 0));
        refused("waves of 300", -2, 0, x -> x.waves(1, 1, 0, 1));
        refused("waves of 5, 6, 70", -2, 0, x -> x.waves(0, 0, 0, 3));
        refused("shift(20)", -2, STAYS, x -> x.shift(20));
        refused("shift(-1)", -2, STAYS, x -> x.shift(-1));
        refused("wave(100000)", -99, STAYS, x -> x.wave(100000));
        refused("wave(-1)", -99, STAYS, x -> x.wave(-1));
    }

    private void fillThrows() {
        refused("toss(8, ..)", -1, STAYS, x -> x.toss(8, 100, 40, 10, 70));
        refused("toss of SPEED 301", -2, STAYS, x -> x.toss(0, 301, 40, 10, 70));
        refused("toss of FALL 0", -2, STAYS, x -> x.toss(0, 100, 0, 10, 70));
        refused("toss of SLANT 46", -2, STAYS, x -> x.toss(0, 100, 40, 46, 70));
        refused("toss of SPIN -1", -2, STAYS, x -> x.toss(0, 100, 40, 10, -1));
        refusedBare("toss(3, ..)", -1, x -> x.toss(3, 100, 40, 10, 70));
        refused("touch(90, 0)", -1, STAYS, x -> x.touch(90, 0));
        refusedBare("touch(0, 0)", -1, x -> x.touch(0, 0));
        refused("touch(0, 9)", -2, STAYS, x -> x.touch(0, 9));
        refused("judge(5)", -1, STAYS, x -> x.judge(5));
        refusedBare("judge(0)", -3, x -> x.judge(0));
        refused("tell(90)", -1, STAYS, x -> x.tell(90));
        refused("hear(90)", -1, STAYS, x -> x.hear(90));
        refusedBare("tell(0)", -1, x -> x.tell(0));
        refusedBare("hear(0)", -1, x -> x.hear(0));
        refused("as(90, 0)", -1, 0, x -> x.as(90, 0));
        refused("as(0, 4)", -2, 0, x -> x.as(0, 4));
    }

    private void fillGrids() {
        refused("line(8, 10, 40)", -1, STAYS, x -> x.line(8, 10, 40));
        refused("line(0, 46, 40)", -2, STAYS, x -> x.line(0, 46, 40));
        refused("line(0, 10, 0)", -2, STAYS, x -> x.line(0, 10, 0));
        refused("best of stone 8", -1, STAYS, x -> x.best(8, 9, 5, 5, 5, 0, 0));
        refused("best by 5", -1, STAYS, x -> x.best(0, 9, 5, 5, 5, 5, 0));
        refused("best of no grid", -2, STAYS, x -> x.best(0, 0, 5, 5, 5, 0, 0));
        refused("best of what 3", -2, STAYS, x -> x.best(0, 9, 5, 5, 5, 0, 3));
        refused("grid(0, 9)", -2, STAYS, x -> x.grid(0, 9));
        refused("grid(9, 100)", -2, STAYS, x -> x.grid(9, 100));
        refused("odds of stone 8", LOST, STAYS, x -> x.odds(8, 9, 5, 5, 5, 0, 0, 0));
        refused("odds by 5", LOST, STAYS, x -> x.odds(0, 9, 5, 5, 5, 5, 0, 0));
        refused("odds of no grid", LOST, STAYS, x -> x.odds(0, 9, 5, 5, 11, 0, 0, 0));
        refused("odds of which 2", LOST, STAYS, x -> x.odds(0, 9, 5, 5, 5, 0, 0, 2));
        refused("narrow of stone 8", -1, STAYS, x -> x.narrow(8, 9, 5, 5, 5, 0, 0));
        refused("narrow by 5", -1, STAYS, x -> x.narrow(0, 9, 5, 5, 5, 5, 0));
        refused("narrow of no grid", -2, STAYS, x -> x.narrow(0, 9, 21, 5, 5, 0, 0));
        refused("rings(4, 0, 0, 1)", -1, 0, x -> x.rings(4, 0, 0, 1));
        refused("rings(0, 3, 0, 1)", -2, 0, x -> x.rings(0, 3, 0, 1));
        refused("rings(0, 0, 0, 0)", -2, 0, x -> x.rings(0, 0, 0, 0));
        refused("rings at 300, -2", -2, 0, x -> x.rings(1, 1, 0, 2));
        refused("read of stone 8", -1, STAYS, x -> x.read(8, 9, 5, 5, 5, 0));
        refused("read of no grid", -2, STAYS, x -> x.read(0, 9, 5, 46, 0, 0));
        refused("read of what 3", -2, STAYS, x -> x.read(0, 9, 5, 5, 5, 3));
        refusedBare("read with no rings", -3, x -> x.read(0, 9, 5, 5, 5, 0));
        refused("there of stone 8", -1, STAYS, x -> x.there(8, 9, 5, 5, 5, 0, 9));
        refused("there of no grid", -2, STAYS, x -> x.there(0, 9, 5, -1, 5, 0, 9));
        refused("when of stone 8", -1, STAYS, x -> x.when(8, 100, 10, 0, 0));
        refused("when by 5", -1, STAYS, x -> x.when(0, 100, 10, 5, 0));
        refused("when of SPEED 0", -2, STAYS, x -> x.when(0, 0, 10, 0, 0));
        refused("when of SLANT 46", -2, STAYS, x -> x.when(0, 100, 46, 0, 0));
        refused("when of what 2", -2, STAYS, x -> x.when(0, 100, 10, 0, 2));
    }

    private void fillBeaches() {
        refused("beach(8, 1, 1)", -1, STAYS, x -> x.beach(8, 1, 1));
        refused("beach(0, 10, 1)", -2, STAYS, x -> x.beach(0, 10, 1));
        refused("beach(0, 1, 100)", -2, STAYS, x -> x.beach(0, 1, 100));
        refused("mean(0, 0)", LOST, STAYS, x -> x.mean(0, 0));
        refused("mean(1, 2)", LOST, STAYS, x -> x.mean(1, 2));
        refusedBare("mean(1, 0)", LOST, x -> x.mean(1, 0));
        refused("hours(100)", -2, STAYS, x -> x.hours(100));
        refusedBare("hours(0)", -3, x -> x.hours(0));
        refused("many(4)", -2, STAYS, x -> x.many(4));
    }

    private void fillSheets() {
        refused("sheet(4, 0, 1)", -1, 0, x -> x.sheet(4, 0, 1));
        refused("sheet(0, 3, 1)", -2, 0, x -> x.sheet(0, 3, 1));
        refused("sheet(0, 0, 61)", -2, 0, x -> x.sheet(0, 0, 61));
        refused("lose(4)", -1, STAYS, x -> x.lose(4));
        refused("lose(-1)", -1, STAYS, x -> x.lose(-1));
        refused("put(4, 0, 1)", -1, 0, x -> x.put(4, 0, 1));
        refused("cell(4, 0, 0)", LOST, 0, x -> x.cell(4, 0, 0));
        refused("cell(0, 0, 3)", LOST, 0, x -> x.cell(0, 0, 3));
        refused("copy(4, 0, 0, 0, 1)", -1, 0, x -> x.copy(4, 0, 0, 0, 1));
        refused("copy(0, 0, 4, 0, 1)", -1, 0, x -> x.copy(0, 0, 4, 0, 1));
    }

    private void fillFaults() {
        CellEdges.Taking[] takings = {SkipStones::law, SkipStones::waves, SkipStones::rings};
        String[] names = {"law", "waves", "rings"};
        for (int t = 0; t < 3; t++) {
            CellEdges.Taking taking = takings[t];
            fault(names[t] + "(2, 0, 0, 1)", 1, x -> taking.by(x, 2, 0, 0, 1));
            fault(names[t] + "(0, 1, 0, 1)", 2, x -> taking.by(x, 0, 1, 0, 1));
            fault(names[t] + "(0, 0, 0, 4)", 3, x -> taking.by(x, 0, 0, 0, 4));
            fault(names[t] + "(0, 0, 4, 0)", 3, x -> taking.by(x, 0, 0, 4, 0));
            fault(names[t] + "(0, 0, -1, 0)", 3, x -> taking.by(x, 0, 0, -1, 0));
            fault(names[t] + "(0, 0, 0, -1)", 4, x -> taking.by(x, 0, 0, 0, -1));
        }
        fault("sheet(0, 1, -1)", 4, x -> x.sheet(0, 1, -1));
        fault("sheet(2, 1, -1)", 4, x -> x.sheet(2, 1, -1));
        fault("put(2, 0, 1)", 1, x -> x.put(2, 0, 1));
        fault("put(0, 3, 1)", 3, x -> x.put(0, 3, 1));
        fault("put(0, -1, 1)", 3, x -> x.put(0, -1, 1));
        faults.add(new Refused("cell(2, 0, 0)", x -> x.cell(2, 0, 0), LOST, 1, false));
        faults.add(new Refused("cell(0, 0, 1)", x -> x.cell(0, 0, 1), LOST, 2, false));
        faults.add(new Refused("cell(0, 3, 0)", x -> x.cell(0, 3, 0), LOST, 3, false));
        fault("copy(2, 0, 0, 0, 1)", 1, x -> x.copy(2, 0, 0, 0, 1));
        fault("copy(0, 0, 2, 0, 1)", 1, x -> x.copy(0, 0, 2, 0, 1));
        fault("copy(0, 0, 1, 0, 1)", 2, x -> x.copy(0, 0, 1, 0, 1));
        fault("copy(0, 0, 0, 1, 3)", 3, x -> x.copy(0, 0, 0, 1, 3));
        fault("copy(0, 1, 0, 0, 3)", 3, x -> x.copy(0, 1, 0, 0, 3));
        fault("copy(0, 0, 0, 1, -1)", 3, x -> x.copy(0, 0, 0, 1, -1));
        fault("copy(0, 4, 0, 0, 0)", 3, x -> x.copy(0, 4, 0, 0, 0));
        fault("as(0, 2)", 2, x -> x.as(0, 2));
        fault("as(0, 3)", 2, x -> x.as(0, 3));
    }

    // ---- the sentences

    private void answering(List<Refused> calls, long answer) {
        for (Refused r : calls) {
            if (r.answer == answer) {
                e.is(r.call, r.made.on(r.ahead()), answer);
            }
        }
    }

    private void answers() {
        e.of(TERMS, "REFUSALS: UNKNOWN (there is no such STONE, TOUCH, SHEET, place),", () -> {
            e.is("UNKNOWN", SkipStones.UNKNOWN, -1);
            answering(refusals, -1);
        });
        e.of(TERMS, "OUTSIDE (another number is not as told),", () -> {
            e.is("OUTSIDE", SkipStones.OUTSIDE, -2);
            answering(refusals, -2);
            answering(refusals, -99);
        });
        e.of(TERMS, "STATE (as told), FULL;", () -> {
            e.is("STATE", SkipStones.STATE, -3);
            e.is("FULL", SkipStones.FULL, -4);
            answering(refusals, -3);
            answering(refusals, -4);
        });
    }

    private void order() {
        e.of(TERMS, "of several the first in the order in which a call's line tells them.", () -> {
            e.is("stone: OUTSIDE, FULL", full().stone(0, 1, 1), -2);
            e.is("ofStone: UNKNOWN, OUTSIDE", full().ofStone(8, 5), -1);
            e.is("law: UNKNOWN, OUTSIDE", full().law(4, 3, 0, 1), -1);
            e.is("law: OUTSIDE, NULL", full().law(2, 3, 0, 1), -2);
            e.is("waves: OUTSIDE, CAST", full().waves(0, 3, 9, -1), -2);
            e.is("waves: CAST, OUTSIDE", full().waves(0, 1, 0, 0), -12);
            e.is("waves: NULL, OUTSIDE", full().waves(2, 1, 0, 0), -11);
            e.is("waves: SIZE, OUTSIDE", full().waves(0, 0, 0, -1), -14);
            e.is("waves: INDEX, OUTSIDE", full().waves(0, 0, 0, 21), -13);
            e.is("rings: UNKNOWN, OUTSIDE", full().rings(4, 3, 0, 0), -1);
            e.is("rings: INDEX, OUTSIDE", full().rings(1, 1, 1, 2), -13);
            e.is("toss: UNKNOWN, OUTSIDE", full().toss(8, 0, 0, -1, -1), -1);
            e.is("touch: UNKNOWN, OUTSIDE", full().touch(90, 9), -1);
            e.is("judge: UNKNOWN, STATE", bare().judge(5), -1);
            e.is("line: UNKNOWN, OUTSIDE", full().line(8, 46, 0), -1);
            e.is("best: UNKNOWN, OUTSIDE", full().best(0, 0, 0, 0, 0, 5, 3), -1);
            e.is("narrow: UNKNOWN, OUTSIDE", full().narrow(0, 0, 0, 0, 0, 5, 0), -1);
            e.is("read: UNKNOWN, STATE", bare().read(3, 0, 0, 0, 0, 3), -1);
            e.is("read: OUTSIDE, STATE", bare().read(0, 9, 5, 5, 5, 3), -2);
            e.is("there: UNKNOWN, OUTSIDE", full().there(8, 0, 0, 0, 0, 0, 0), -1);
            e.is("when: UNKNOWN, OUTSIDE", full().when(0, 0, 0, 5, 2), -1);
            e.is("beach: UNKNOWN, OUTSIDE", full().beach(8, 10, 100), -1);
            e.is("hours: OUTSIDE, STATE", bare().hours(100), -2);
            e.is("sheet: UNKNOWN, OUTSIDE", full().sheet(4, 3, -1), -1);
            e.is("sheet: OUTSIDE, SIZE", full().sheet(0, 3, -1), -2);
            e.is("put: UNKNOWN, INDEX", full().put(4, -1, 0), -1);
            e.is("copy: UNKNOWN, NULL", full().copy(2, 0, 4, 0, 1), -1);
            e.is("as: UNKNOWN, OUTSIDE", full().as(90, 4), -1);
        });
    }

    private void nothingChanges(List<Refused> calls) {
        for (Refused r : calls) {
            List<Long> before = told(r.ahead());
            e.is("ahead of " + r.call + ", fault()", before.get(0), FAULT_AHEAD);
            SkipStones x = r.ahead();
            e.is(r.call, r.made.on(x), r.answer);
            List<Long> behind = told(x);
            e.is("behind " + r.call + ", fault()", behind.get(0), r.fault == STAYS ? FAULT_AHEAD : r.fault);
            e.is("behind " + r.call + ", how much is told", behind.size(), before.size());
            for (int t = 1; t < Math.min(before.size(), behind.size()); t++) {
                e.is("behind " + r.call + ", what is told as " + t, behind.get(t), before.get(t));
            }
        }
    }

    private void comingTo(int fault) {
        for (Refused r : faults) {
            if (r.fault == fault) {
                SkipStones x = r.ahead();
                e.is(r.call, r.made.on(x), r.answer);
                e.is("fault() behind " + r.call, x.fault(), fault);
            }
        }
    }

    private void faultTerms() {
        e.of(TERMS, "FAULTS are the machine's: 1 NULL (there is nothing),", () -> comingTo(1));
        e.of(TERMS, "2 CAST (it is of another LANE, kind),", () -> comingTo(2));
        e.of(TERMS, "3 INDEX (of cells from i on also where i is not 0 .. how many there are, if none of them is taken, too),",
            () -> {
                comingTo(3);
                int[] places = {-1, 0, 3, 4};
                boolean[] stands = {false, true, true, false};
                for (int p = 0; p < places.length; p++) {
                    String from = " none from " + places[p] + " on";
                    e.is("law of" + from, full().law(0, 0, places[p], 0), stands[p] ? -100 : -13);
                    e.is("waves of" + from, full().waves(0, 0, places[p], 0), stands[p] ? -2 : -13);
                    e.is("rings of" + from, full().rings(0, 0, places[p], 0), stands[p] ? -2 : -13);
                    e.is("copy of" + from, full().copy(0, places[p], 0, 0, 0), stands[p] ? 0 : -13);
                    e.is("copy to" + from, full().copy(0, 0, 0, places[p], 0), stands[p] ? 0 : -13);
                }
            });
        e.of(TERMS, "4 SIZE (a length below 0).", () -> comingTo(4));
        e.of(TERMS, "Of a call the first that is come to, in the order told;", () -> {
            e.is("law: CAST, SIZE, INDEX", full().law(0, 1, -1, -1), -12);
            e.is("law: NULL, SIZE, INDEX", full().law(2, 0, -1, -1), -11);
            e.is("law: SIZE, INDEX", full().law(0, 0, -1, -1), -14);
            e.is("law: INDEX, its text", full().law(0, 0, 3, 1), -13);
            e.is("cell: CAST, INDEX", faultOf(x -> x.cell(0, 3, 1)), 2);
            e.is("cell: NULL, INDEX", faultOf(x -> x.cell(2, 3, 1)), 1);
            e.is("put: NULL, INDEX", full().put(2, -1, 0), -11);
            e.is("copy: NULL, INDEX", full().copy(0, 9, 2, 9, -1), -11);
            e.is("copy: CAST, INDEX", full().copy(0, 9, 1, 9, -1), -12);
        });
        e.of(TERMS, "it answers -10 less it (LOST, where a long is answered, as for refusals)", () -> {
            e.is("LOST", SkipStones.LOST, LOST);
            for (Refused r : faults) {
                e.is(r.call, r.made.on(r.ahead()), r.call.startsWith("cell") ? LOST : -10 - r.fault);
            }
            answering(refusals, LOST);
        });
        e.of(TERMS, "and changes nothing;", () -> nothingChanges(faults));
        e.of(TERMS, "fault() tells it.", () -> {
            for (Refused r : faults) {
                e.is("fault() behind " + r.call, faultOf(r.made), r.fault);
            }
        });
    }

    private static int faultOf(Call made) {
        SkipStones x = full();
        made.on(x);
        return x.fault();
    }

    private void share(String of, long upper, long lower, long wantUpper, long wantLower) {
        e.is("upper of " + of, upper, wantUpper);
        e.is("lower of " + of, lower, wantLower);
    }

    private void numbers() {
        e.of(TERMS, "NONE is -9.", () -> {
            e.is("NONE", SkipStones.NONE, -9);
            e.is("line with none", full().line(0, 0, 99), -9);
            e.is("narrow of spans of 0", full().narrow(0, 9, 0, 5, 0, 0, 0), -9);
            e.is("read's first of none", full().read(0, 9, 5, 5, 5, 1), -9);
        });
        e.of(TERMS, "Quotients are cut (towards 0).", () -> {
            SkipStones x = new SkipStones();
            x.stone(1, 20, 0);
            x.toss(0, 99, 41, 10, 19);
            // 99*15/100 = 14.85, 41*80/100 = 32.8, 84*32/20 = 134.4, 32/5 = 6.4, 19/10 = 1.9, (20 less 17) by 5 = 0.6.
            e.is("taken off SPEED", x.touch(0, 7), 15);
            int[] want = {134, 84, 32, 10, 17, 10};
            for (int what = 1; what <= 6; what++) {
                e.is("touch(1, " + what + ")", x.touch(1, what), want[what - 1]);
            }
            e.is("BEAT", x.touch(1, 8), 6);
            // 45*20*11/200 = 49.5 is less than 50.
            e.is("what lifts it", x.line(0, 11, 40), 46);
        });
        e.of(TERMS, "Shares are told as upper (which = 0) and lower number (1; above 0) in least terms.", () -> {
            SkipStones x = new SkipStones();
            x.stone(1, 20, 0);
            Due.law(x, "h1;r50");
            x.grid(40, 99);
            // At SLANT 10 a throw goes from SPEED 50 on.
            share("2 of 4", x.odds(0, 48, 3, 10, 0, 0, 1, 0), x.odds(0, 48, 3, 10, 0, 0, 1, 1), 1, 2);
            share("0 of 21", x.odds(0, 1, 20, 10, 0, 0, 1, 0), x.odds(0, 1, 20, 10, 0, 0, 1, 1), 0, 1);
            share("21 of 21", x.odds(0, 60, 20, 10, 0, 0, 1, 0), x.odds(0, 60, 20, 10, 0, 0, 1, 1), 1, 1);
            share("2 of 3", x.odds(0, 49, 2, 10, 0, 0, 1, 0), x.odds(0, 49, 2, 10, 0, 0, 1, 1), 2, 3);
            x.beach(0, 9, 0);
            share("0 of 9 to the sixth", x.mean(6, 0), x.mean(6, 1), 0, 1);
            x.beach(0, 9, 99);
            share("99", x.mean(6, 0), x.mean(6, 1), 99, 1);
        });
    }
}
