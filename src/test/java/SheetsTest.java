/** Promises 17 to 21: sheet, lose, put, cell, copy. */
final class SheetsTest {
    private static final int UNKNOWN = RicherChange.UNKNOWN, OUTSIDE = RicherChange.OUTSIDE;
    private static final long LOST = RicherChange.LOST;

    public static void main(String[] args) {
        sheet();
        lose();
        put();
        cell();
        copy();
        wrongCopy();
        sheetsAreApart();
        Due.end();
    }

    private static void lost(RicherChange x, String call, long got, int fault) {
        Due.due(call, got, LOST);
        Due.due("fault() after " + call, x.fault(), fault);
    }

    private static void refused(RicherChange x, String call, long got, long want) {
        Due.due(call, got, want);
        Due.due("fault() after " + call, x.fault(), 0);
    }

    private static void sheet() {
        RicherChange x = new RicherChange();
        for (int lane = 0; lane < 3; lane++) {
            refused(x, "0 cells", x.sheet(3, lane, 0), 1);
            Due.fault(x, "put to none", x.put(3, 0, 1), Due.INDEX);
            refused(x, "60 cells", x.sheet(3, lane, 60), 1);
            refused(x, "put to the last", x.put(3, 59, 7), 1);
            Due.due("the last", x.cell(3, 59, lane), 7);
            Due.fault(x, "put beyond", x.put(3, 60, 1), Due.INDEX);
        }
        refused(x, "61 cells", x.sheet(3, 0, 61), OUTSIDE);
        Due.fault(x, "-1 cells", x.sheet(3, 0, -1), Due.SIZE);
        Due.fault(x, "least cells", x.sheet(3, 2, Integer.MIN_VALUE), Due.SIZE);
        refused(x, "lane -1", x.sheet(3, -1, -1), OUTSIDE);
        refused(x, "lane 3", x.sheet(3, 3, -1), OUTSIDE);
        refused(x, "sheet -1", x.sheet(-1, 3, -1), UNKNOWN);
        refused(x, "sheet 4", x.sheet(4, 0, 1), UNKNOWN);
        Due.due("the row stays", x.cell(3, 59, 2), 7);
        x.sheet(3, 2, 60);
        Due.due("a new row is of 0", x.cell(3, 59, 2), 0);
        x.put(3, 0, 5);
        x.sheet(3, 2, 1);
        Due.due("a new row is of 0", x.cell(3, 0, 2), 0);
    }

    private static void lose() {
        RicherChange x = new RicherChange();
        Due.due("nothing", x.lose(0), 0);
        x.sheet(0, 0, 0);
        Due.due("an empty row is a row", x.lose(0), 1);
        Due.due("nothing again", x.lose(0), 0);
        lost(x, "cell of nothing", x.cell(0, 0, 1), Due.NULL);
        Due.due("sheet -1", x.lose(-1), UNKNOWN);
        Due.due("sheet 4", x.lose(4), UNKNOWN);
        Due.due("lose names no fault", x.fault(), Due.NULL);
    }

    private static void put() {
        RicherChange x = new RicherChange();
        refused(x, "sheet -1", x.put(-1, 0, 0), UNKNOWN);
        refused(x, "sheet 4", x.put(4, 0, 0), UNKNOWN);
        Due.fault(x, "nothing", x.put(2, -1, 0), Due.NULL);
        x.sheet(2, 2, 3);
        Due.fault(x, "i -1", x.put(2, -1, 0), Due.INDEX);
        Due.fault(x, "i 3", x.put(2, 3, 0), Due.INDEX);
        int[] numbers = {0, 127, 128, -128, -129, 255, 256, 32767, 32768, -32768, -32769, 65536,
            Integer.MAX_VALUE, Integer.MIN_VALUE};
        for (int v : numbers) {
            x.sheet(0, 0, 1);
            x.sheet(1, 1, 1);
            for (int k = 0; k < 3; k++) {
                refused(x, "put " + v, x.put(k, 0, v), 1);
            }
            Due.due(v + " as a byte", x.cell(0, 0, 0), (byte) v);
            Due.due(v + " as a short", x.cell(1, 0, 1), (short) v);
            Due.due(v + " as an int", x.cell(2, 0, 2), v);
        }
    }

    private static void cell() {
        RicherChange x = new RicherChange();
        x.sheet(0, 1, 2);
        x.put(0, 1, -5);
        Due.due("cell", x.cell(0, 1, 1), -5);
        lost(x, "unlike lane", x.cell(0, 9, 0), Due.CAST);
        lost(x, "unlike lane", x.cell(0, 0, 2), Due.CAST);
        lost(x, "i -1", x.cell(0, -1, 1), Due.INDEX);
        lost(x, "i 2", x.cell(0, 2, 1), Due.INDEX);
        lost(x, "nothing", x.cell(1, 9, 0), Due.NULL);
        lost(x, "lane -1", x.cell(0, 0, -1), 0);
        lost(x, "nothing", x.cell(1, 9, 0), Due.NULL);
        lost(x, "lane 3", x.cell(1, 0, 3), 0);
        lost(x, "nothing", x.cell(1, 9, 0), Due.NULL);
        lost(x, "sheet -1", x.cell(-1, 0, 0), 0);
        lost(x, "sheet 4", x.cell(4, 0, 0), 0);
    }

    private static void is(RicherChange x, int k, int lane, int... want) {
        for (int i = 0; i < want.length; i++) {
            Due.due("cell(" + k + ", " + i + ")", x.cell(k, i, lane), want[i]);
        }
        lost(x, "beyond", x.cell(k, want.length, lane), Due.INDEX);
    }

    private static void copy() {
        RicherChange x = new RicherChange();
        Due.row(x, 0, 2, 1, 2, 3, 4, 5);
        x.sheet(1, 2, 3);
        Due.due("copy", x.copy(0, 1, 1, 0, 3), 3);
        is(x, 1, 2, 2, 3, 4);
        is(x, 0, 2, 1, 2, 3, 4, 5);
        Due.due("none at the ends", x.copy(0, 5, 1, 3, 0), 0);
        Due.due("upwards in itself", x.copy(0, 0, 0, 1, 4), 4);
        is(x, 0, 2, 1, 1, 2, 3, 4);
        Due.due("downwards in itself", x.copy(0, 1, 0, 0, 4), 4);
        is(x, 0, 2, 1, 2, 3, 4, 4);
        Due.due("the last alone", x.copy(0, 4, 1, 2, 1), 1);
        is(x, 1, 2, 2, 3, 4);
        Due.due("no fault after one", x.fault(), Due.INDEX);
        x.copy(0, 0, 0, 0, 0);
        Due.due("no fault", x.fault(), 0);
    }

    private static void wrongCopy() {
        RicherChange x = new RicherChange();
        x.put(0, 0, 0);
        refused(x, "sheet -1", x.copy(-1, 0, 0, 0, 0), UNKNOWN);
        refused(x, "sheet 4", x.copy(4, 0, 0, 0, 0), UNKNOWN);
        refused(x, "other -1", x.copy(0, 0, -1, 0, 0), UNKNOWN);
        refused(x, "other 4", x.copy(0, 0, 4, 0, 0), UNKNOWN);
        Due.fault(x, "both nothing", x.copy(0, 0, 1, 0, 0), Due.NULL);
        Due.row(x, 0, 1, 1, 2, 3);
        Due.fault(x, "other nothing", x.copy(0, 9, 1, 0, 0), Due.NULL);
        Due.fault(x, "first nothing", x.copy(1, 9, 0, 0, 0), Due.NULL);
        Due.row(x, 1, 2, 1, 2);
        Due.fault(x, "unlike lanes", x.copy(0, 9, 1, 0, 0), Due.CAST);
        Due.fault(x, "unlike lanes", x.copy(1, 0, 0, 0, 1), Due.CAST);
        Due.row(x, 1, 1, 7, 8);
        int[][] beyond = {{-1, 0, 1}, {0, -1, 1}, {0, 0, -1}, {0, 0, 3}, {1, 0, 3}, {2, 0, 2}, {0, 1, 2},
            {4, 0, 0}, {0, 3, 0}, {3, 0, 1}, {0, 2, 1}, {1, 1, Integer.MAX_VALUE},
            {Integer.MAX_VALUE, 0, 1}, {0, Integer.MAX_VALUE, 1}, {0, 0, Integer.MIN_VALUE}};
        for (int[] b : beyond) {
            String call = "copy(0, " + b[0] + ", 1, " + b[1] + ", " + b[2] + ")";
            Due.fault(x, call, x.copy(0, b[0], 1, b[1], b[2]), Due.INDEX);
        }
        is(x, 1, 1, 7, 8);
        is(x, 0, 1, 1, 2, 3);
    }

    private static void sheetsAreApart() {
        RicherChange x = new RicherChange();
        RicherChange y = new RicherChange();
        for (int k = 0; k < 4; k++) {
            Due.row(x, k, k % 3, 10 + k, 20 + k);
            y.sheet(k, k % 3, 2);
        }
        for (int k = 0; k < 4; k++) {
            is(x, k, k % 3, 10 + k, 20 + k);
            is(y, k, k % 3, 0, 0);
        }
        x.lose(1);
        is(x, 0, 0, 10, 20);
        is(x, 2, 2, 12, 22);
    }
}
