/** Promises 24 to 28, 33, 34: sheets, their cells, faults, how many. */
public final class SheetsTest {
    private static final Due due = new Due("SheetsTest");
    private static final long LOST = Long.MIN_VALUE;

    public static void main(String[] args) {
        newRows();
        sheetRefusals();
        losing();
        cutting();
        putRefusals();
        cellRefusals();
        copies();
        copyRefusals();
        faults();
        howMany();
        due.end();
    }

    private static void newRows() {
        SkipStones x = new SkipStones();
        for (int k = 0; k < 4; k++) {
            due.is("24 sheet " + k, x.sheet(k, k % 3, 3), 1);
            due.is("24 zeros at first", x.cell(k, 2, k % 3), 0);
            due.is("24 no more", x.cell(k, 3, k % 3), LOST);
        }
        x.put(0, 0, 7);
        due.is("24 again", x.sheet(0, 0, 3), 1);
        due.is("24 a new row", x.cell(0, 0, 0), 0);
        due.is("24 another lane", x.sheet(0, 1, 60), 1);
        due.is("24 of sixty", x.put(0, 59, 5), 1);
        due.is("24 not more", x.put(0, 60, 5), -13);
        due.is("24 none", x.sheet(0, 2, 0), 1);
        due.is("24 of none has no cell", x.put(0, 0, 5), -13);
        due.is("24 but is something", x.lose(0), 1);
        due.is("24 long again", x.sheet(0, 1, 60), 1);
        due.is("24 what was there is gone", x.cell(0, 59, 1), 0);
    }

    private static void sheetRefusals() {
        SkipStones x = new SkipStones();
        Due.write(x, 0, 1, 9);
        due.is("24 unknown", x.sheet(4, 3, -1), -1);
        due.is("24 unknown below", x.sheet(-1, 0, 1), -1);
        due.is("24 lane", x.sheet(0, 3, -1), -2);
        due.is("24 lane below", x.sheet(0, -1, 1), -2);
        due.is("24 too many", x.sheet(0, 0, 61), -2);
        due.is("24 greatest int", x.sheet(0, 0, Integer.MAX_VALUE), -2);
        due.is("24 size", x.sheet(0, 0, -1), -14);
        due.is("24 its fault", x.fault(), 4);
        due.is("24 least int", x.sheet(0, 0, Integer.MIN_VALUE), -14);
        due.is("24 a refusal", x.sheet(0, 0, 61), -2);
        due.is("24 has no fault", x.fault(), 0);
        due.is("24 the row stays", x.cell(0, 0, 1), 9);
        x.put(1, 0, 0);
        x.sheet(1, 0, 1);
        due.is("24 none come to", x.fault(), 0);
    }

    private static void losing() {
        SkipStones x = new SkipStones();
        due.is("25 it had nothing", x.lose(3), 0);
        x.sheet(3, 0, 2);
        due.is("25 lost", x.lose(3), 1);
        due.is("25 again", x.lose(3), 0);
        due.is("25 nothing there", x.put(3, 0, 1), -11);
        due.is("25 unknown", x.lose(4), -1);
        due.is("25 unknown below", x.lose(-1), -1);
        due.is("25 names no fault", x.fault(), 1);
    }

    private static void cutting() {
        SkipStones x = new SkipStones();
        int[] numbers = {0, 127, 128, 255, 256, -128, -129, 32767, 32768, 65535, 65536, -32769,
            Integer.MAX_VALUE, Integer.MIN_VALUE, -1};
        long[][] want = {
            {0, 127, -128, -1, 0, -128, 127, -1, 0, -1, 0, -1, -1, 0, -1},
            {0, 127, 128, 255, 256, -128, -129, 32767, -32768, -1, 0, 32767, -1, 0, -1},
            {0, 127, 128, 255, 256, -128, -129, 32767, 32768, 65535, 65536, -32769,
                Integer.MAX_VALUE, Integer.MIN_VALUE, -1}};
        for (int lane = 0; lane < 3; lane++) {
            Due.write(x, lane, lane, numbers);
            for (int i = 0; i < numbers.length; i++) {
                due.is("26 " + numbers[i] + " of lane " + lane, x.cell(lane, i, lane), want[lane][i]);
            }
        }
        due.is("26 answers 1", x.put(0, 0, 300), 1);
        due.is("27 44", x.cell(0, 0, 0), 44);
    }

    private static void putRefusals() {
        SkipStones x = new SkipStones();
        due.is("26 unknown", x.put(4, 0, 1), -1);
        due.is("26 unknown below", x.put(-1, 0, 1), -1);
        due.is("26 null", x.put(0, -1, 1), -11);
        due.is("33 null", x.fault(), 1);
        x.sheet(0, 0, 2);
        int[] places = {-1, 2, Integer.MAX_VALUE, Integer.MIN_VALUE};
        for (int i : places) {
            due.is("26 index " + i, x.put(0, i, 1), -13);
            due.is("33 index", x.fault(), 3);
        }
        due.is("26 the last", x.put(0, 1, 1), 1);
        due.is("33 none", x.fault(), 0);
        x.put(0, 2, 1);
        x.put(4, 0, 1);
        due.is("33 a refusal wipes it", x.fault(), 0);
    }

    private static void cellRefusals() {
        SkipStones x = new SkipStones();
        due.is("27 null", x.cell(0, -1, 0), LOST);
        due.is("27 nothing is no cast", x.fault(), 1);
        Due.write(x, 0, 1, 5, 6);
        due.is("27 cast ahead of index", x.cell(0, 9, 0), LOST);
        due.is("27 its fault", x.fault(), 2);
        due.is("27 index", x.cell(0, 2, 1), LOST);
        due.is("27 its fault", x.fault(), 3);
        due.is("27 index below", x.cell(0, -1, 1), LOST);
        due.is("27 its fault", x.fault(), 3);
        due.is("27 unknown", x.cell(4, 0, 1), LOST);
        due.is("27 has none", x.fault(), 0);
        x.cell(0, 2, 1);
        due.is("27 lane", x.cell(0, 9, 3), LOST);
        due.is("27 has none", x.fault(), 0);
        x.cell(0, 2, 1);
        due.is("27 lane below", x.cell(0, 9, -1), LOST);
        due.is("27 has none", x.fault(), 0);
        x.cell(0, 2, 1);
        due.is("27 a cell", x.cell(0, 1, 1), 6);
        due.is("27 has none", x.fault(), 0);
        due.is("27 unknown below", x.cell(-1, 0, 1), LOST);
    }

    private static void rowIs(SkipStones x, String call, int k, int lane, int... want) {
        for (int i = 0; i < want.length; i++) {
            due.is(call + " cell " + i, x.cell(k, i, lane), want[i]);
        }
        due.is(call + " no more", x.cell(k, want.length, lane), LOST);
    }

    private static void copies() {
        SkipStones x = new SkipStones();
        Due.write(x, 0, 0, 1, 2, 3, 4, 5);
        x.sheet(1, 0, 4);
        due.is("28 to another", x.copy(0, 1, 1, 0, 3), 3);
        rowIs(x, "28 the other", 1, 0, 2, 3, 4, 0);
        rowIs(x, "28 the first stays", 0, 0, 1, 2, 3, 4, 5);
        due.is("28 up in itself", x.copy(0, 0, 0, 1, 4), 4);
        rowIs(x, "28 as they were", 0, 0, 1, 1, 2, 3, 4);
        due.is("28 down in itself", x.copy(0, 1, 0, 0, 4), 4);
        rowIs(x, "28 as they were", 0, 0, 1, 2, 3, 4, 4);
        due.is("28 none at the ends", x.copy(0, 5, 1, 4, 0), 0);
        due.is("28 no fault", x.fault(), 0);
        due.is("28 all", x.copy(1, 0, 0, 1, 4), 4);
        rowIs(x, "28 all", 0, 0, 1, 2, 3, 4, 0);
        Due.write(x, 2, 2, Integer.MAX_VALUE);
        x.sheet(3, 2, 1);
        due.is("28 ints", x.copy(2, 0, 3, 0, 1), 1);
        rowIs(x, "28 ints", 3, 2, Integer.MAX_VALUE);
    }

    private static void copyRefusals() {
        SkipStones x = new SkipStones();
        Due.write(x, 0, 0, 1, 2, 3);
        Due.write(x, 1, 1, 4, 5, 6);
        due.is("28 unknown", x.copy(4, 0, 0, 0, 1), -1);
        due.is("28 unknown other", x.copy(2, 0, 4, 0, 1), -1);
        due.is("28 unknown below", x.copy(0, 0, -1, 0, 1), -1);
        due.is("28 null first", x.copy(2, -1, 0, 0, 1), -11);
        due.is("28 null other", x.copy(0, -1, 2, 0, 1), -11);
        due.is("33 null", x.fault(), 1);
        due.is("28 both null", x.copy(2, 0, 2, 0, 0), -11);
        due.is("28 cast ahead of index", x.copy(0, -1, 1, 0, 1), -12);
        due.is("33 cast", x.fault(), 2);
        due.is("28 cast of none", x.copy(0, 0, 1, 0, 0), -12);
        Due.write(x, 2, 0, 7, 8);
        int max = Integer.MAX_VALUE;
        int[][] beyond = {{-1, 0, 1}, {0, -1, 1}, {0, 0, -1}, {0, 0, 3}, {2, 0, 2}, {0, 1, 2}, {4, 0, 0}, {0, 3, 0},
            {-1, 0, 0}, {0, -1, 0}, {max, 0, 1}, {0, max, 1}, {1, 0, max}, {max, max, max}, {0, 0, Integer.MIN_VALUE}};
        for (int[] b : beyond) {
            due.is("28 index " + b[0] + "," + b[1] + "," + b[2], x.copy(0, b[0], 2, b[1], b[2]), -13);
            due.is("33 index", x.fault(), 3);
        }
        rowIs(x, "28 the other stays", 2, 0, 7, 8);
        rowIs(x, "28 the first stays", 0, 0, 1, 2, 3);
        x.copy(0, 9, 2, 0, 1);
        due.is("28 a refusal", x.copy(0, 0, 4, 0, 1), -1);
        due.is("33 wipes it", x.fault(), 0);
    }

    private static void faults() {
        SkipStones x = new SkipStones();
        x.stone(1, 1, 1);
        x.toss(0, 1, 1, 1, 1);
        x.put(0, 0, 0);
        due.is("33 null", x.fault(), 1);
        due.is("33 told twice", x.fault(), 1);
        // None of these names faults, so the one of put() stays, refused or not.
        x.stone(0, 0, 0);
        x.ofStone(9, 0);
        x.rule(9);
        x.shift(99);
        x.wave(-1);
        x.toss(9, 1, 1, 1, 1);
        x.touch(9, 9);
        x.judge(9);
        x.line(9, 1, 1);
        x.best(9, 1, 0, 1, 0, 0, 0);
        x.grid(0, 0);
        x.odds(9, 1, 0, 1, 0, 0, 0, 0);
        x.narrow(9, 1, 0, 1, 0, 0, 0);
        x.read(0, 1, 0, 1, 0, 0);
        x.there(9, 1, 0, 1, 0, 0, 0);
        x.when(9, 1, 1, 1, 1);
        x.beach(9, 1, 1);
        x.mean(9, 9);
        x.hours(999);
        x.lose(9);
        x.lose(0);
        x.tell(0);
        x.hear(0);
        x.trace();
        x.many(9);
        due.is("33 stays", x.fault(), 1);
        due.is("31 cast", x.as(0, 1), -12);
        due.is("33 cast", x.fault(), 2);
        due.is("31 one", x.as(0, 0), 1);
        due.is("33 none", x.fault(), 0);
    }

    private static void howMany() {
        SkipStones x = new SkipStones();
        x.stone(1, 20, 0);
        x.stone(1, 20, 0);
        x.toss(0, 100, 40, 10, 99);
        Due.waves(x, 1, 2, 3);
        Due.rings(x, 1, 2, 3, 4);
        long[] want = {2, 14, 3, 4};
        for (int what = 0; what < 4; what++) {
            due.is("34 many(" + what + ")", x.many(what), want[what]);
        }
        due.is("34 outside", x.many(4), -2);
        due.is("34 outside below", x.many(-1), -2);
        due.is("34 greatest int", x.many(Integer.MAX_VALUE), -2);
    }
}
