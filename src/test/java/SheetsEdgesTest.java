import java.util.function.Supplier;

/** Boundary cases of promises 17 to 21, a method for each sentence. */
final class SheetsEdgesTest {
    private static final int UNKNOWN = RicherChange.UNKNOWN, OUTSIDE = RicherChange.OUTSIDE;
    private static final int LEAST = Integer.MIN_VALUE, MOST = Integer.MAX_VALUE;
    private static final int[] LANE_OF = {1, 2, -1, 0};
    private static final int[] LENGTH_OF = {6, 3, 0, 13};

    public static void main(String[] args) {
        sheetOfEachLength();
        sheetIsNew();
        sheetUnknown();
        sheetOutside();
        sheetSize();
        loseAndAgain();
        loseUnknown();
        putCuts();
        putEdges();
        putUnknown();
        putNull();
        putIndex();
        cellEdges();
        cellUnknown();
        cellOutside();
        cellCast();
        cellNull();
        cellIndex();
        copyEachSpan();
        copyAsTheyWere();
        copyAll();
        copyUnknown();
        copyNull();
        copyCast();
        copyIndex();
        Due.end();
    }

    // ---- promise 17

    private static void sheetOfEachLength() {
        Due.sentence(17, "a row of 0 .. 60 numbers (0 at first) of a LANE");
        for (int k = 0; k < 4; k++) {
            for (int lane = 0; lane < 3; lane++) {
                for (int n = 0; n <= 60; n++) {
                    RicherChange x = new RicherChange();
                    Due.due("sheet(" + k + ", " + lane + ", " + n + ")", x.sheet(k, lane, n), 1);
                    Due.due("fault()", x.fault(), 0);
                    isOfNoughts(x, k, lane, n);
                }
            }
        }
    }

    private static void isOfNoughts(RicherChange x, int k, int lane, int n) {
        for (int i = 0; i < n; i++) {
            Due.due("cell " + i + " of " + n, x.cell(k, i, lane), 0);
        }
        Due.due("a cell behind " + n, x.cell(k, n, lane), RicherChange.LOST);
        Due.due("fault()", x.fault(), Due.INDEX);
    }

    private static void sheetIsNew() {
        Due.sentence(17, "A SHEET gets a new row");
        for (int before = 0; before < 3; before++) {
            for (int lane = 0; lane < 3; lane++) {
                for (int n : new int[] {0, 1, 59, 60}) {
                    RicherChange x = new RicherChange();
                    x.sheet(1, before, 60);
                    for (int i = 0; i < 60; i++) {
                        x.put(1, i, -1);
                    }
                    x.sheet(1, lane, n);
                    isOfNoughts(x, 1, lane, n);
                    // Longer again: what it had is not found again.
                    x.sheet(1, lane, 60);
                    isOfNoughts(x, 1, lane, 60);
                }
            }
        }
    }

    private static void sheetUnknown() {
        Due.sentence(17, "UNKNOWN");
        for (int k : Still.beyond(0, 3)) {
            Still.faultless("sheet(" + k + ", 0, 0)", x -> x.sheet(k, 0, 0), UNKNOWN);
            Still.faultless("sheet(" + k + ", 3, 61)", x -> x.sheet(k, 3, 61), UNKNOWN);
            Still.faultless("sheet(" + k + ", 0, -1)", x -> x.sheet(k, 0, -1), UNKNOWN);
        }
    }

    private static void sheetOutside() {
        Due.sentence(17, "OUTSIDE: lane, n above 60");
        for (int k = 0; k < 4; k++) {
            int sheet = k;
            for (int lane : Still.beyond(0, 2)) {
                Still.faultless("sheet(" + k + ", " + lane + ", 1)", x -> x.sheet(sheet, lane, 1), OUTSIDE);
                // Ahead of SIZE.
                Still.faultless("sheet(" + k + ", " + lane + ", -1)", x -> x.sheet(sheet, lane, -1), OUTSIDE);
            }
            for (int n : new int[] {61, 62, MOST - 1, MOST}) {
                Still.faultless("sheet(" + k + ", 2, " + n + ")", x -> x.sheet(sheet, 2, n), OUTSIDE);
            }
        }
    }

    private static void sheetSize() {
        Due.sentence(17, "SIZE (a length below 0)");
        for (int k = 0; k < 4; k++) {
            for (int l = 0; l < 3; l++) {
                int sheet = k;
                int lane = l;
                for (int n : new int[] {-1, -2, LEAST + 1, LEAST}) {
                    Still.faulty("sheet(" + k + ", " + l + ", " + n + ")", x -> x.sheet(sheet, lane, n), Due.SIZE);
                }
            }
        }
    }

    // ---- promise 18

    private static void loseAndAgain() {
        Due.sentence(18, "A SHEET has nothing: 1; 0: it had nothing.");
        Still.plain("lose(2)", x -> x.lose(2), 0);
        for (int k = 0; k < 4; k++) {
            for (int n : new int[] {0, 1, 60}) {
                RicherChange x = new RicherChange();
                Due.due("at first", x.lose(k), 0);
                x.sheet(k, 2, n);
                Due.due("a row of " + n, x.lose(k), 1);
                Due.due("again", x.lose(k), 0);
                Due.fault(x, "put", x.put(k, 0, 0), Due.NULL);
                x.sheet(k, 2, n);
                isOfNoughts(x, k, 2, n);
            }
        }
        // The CITY has been made; it does not hang on the SHEET.
        RicherChange x = Still.town();
        x.lose(3);
        Due.due("HOUSES", x.many(0), 3);
        Due.due("the other SHEETS", x.cell(0, 3, 1) * 10 + x.cell(1, 2, 2), 29);
    }

    private static void loseUnknown() {
        Due.sentence(18, "UNKNOWN");
        for (int k : Still.beyond(0, 3)) {
            Still.plain("lose(" + k + ")", x -> x.lose(k), UNKNOWN);
        }
    }

    // ---- promise 19

    private static void putCuts() {
        Due.sentence(19, "what comes to a cell of it is cut to its LANE");
        int[][] bytes = {{127, 127}, {128, -128}, {-128, -128}, {-129, 127}, {255, -1}, {256, 0}, {257, 1}, {-256, 0},
            {32768, 0}, {65535, -1}, {MOST, -1}, {LEAST, 0}, {LEAST + 1, 1}};
        int[][] shorts = {{127, 127}, {128, 128}, {32767, 32767}, {32768, -32768}, {-32768, -32768}, {-32769, 32767},
            {65535, -1}, {65536, 0}, {65537, 1}, {-65536, 0}, {MOST, -1}, {LEAST, 0}, {LEAST + 1, 1}};
        int[][] ints = {{128, 128}, {32768, 32768}, {65536, 65536}, {-1, -1}, {MOST, MOST}, {LEAST, LEAST}};
        cut(0, bytes);
        cut(1, shorts);
        cut(2, ints);
    }

    private static void cut(int lane, int[][] pairs) {
        for (int[] p : pairs) {
            RicherChange x = new RicherChange();
            x.sheet(0, lane, 1);
            Due.due("put(0, 0, " + p[0] + "), lane " + lane, x.put(0, 0, p[0]), 1);
            Due.due("fault()", x.fault(), 0);
            Due.due(p[0] + " of lane " + lane, x.cell(0, 0, lane), p[1]);
        }
    }

    private static void putEdges() {
        Due.sentence(19, "Cell i of a SHEET becomes v: 1.");
        for (int i = 0; i < 60; i++) {
            RicherChange x = new RicherChange();
            x.sheet(3, 2, 60);
            Due.due("put(3, " + i + ", 7)", x.put(3, i, 7), 1);
            for (int k = 0; k < 60; k++) {
                Due.due("cell " + k, x.cell(3, k, 2), k == i ? 7 : 0);
            }
        }
    }

    private static void putUnknown() {
        Due.sentence(19, "UNKNOWN");
        for (int k : Still.beyond(0, 3)) {
            Still.faultless("put(" + k + ", 0, 5)", x -> x.put(k, 0, 5), UNKNOWN);
            Still.faultless("put(" + k + ", -1, 5)", x -> x.put(k, -1, 5), UNKNOWN);
        }
    }

    private static void putNull() {
        Due.sentence(19, "NULL");
        for (int i : new int[] {0, 1, -1, 60, LEAST, MOST}) {
            Still.faulty("put(2, " + i + ", 5)", x -> x.put(2, i, 5), Due.NULL);
        }
    }

    private static void putIndex() {
        Due.sentence(19, "INDEX");
        for (int k = 0; k < 4; k++) {
            int sheet = k;
            for (int i : Still.beyond(0, LENGTH_OF[k] - 1)) {
                if (k != 2) {
                    Still.faulty("put(" + k + ", " + i + ", 5)", x -> x.put(sheet, i, 5), Due.INDEX);
                }
            }
        }
        Still.faulty(() -> row(0, 0), "put(0, 0, 5) of none", x -> x.put(0, 0, 5), Due.INDEX);
        Still.faulty(() -> row(2, 60), "put(0, 60, 5) of 60", x -> x.put(0, 60, 5), Due.INDEX);
    }

    private static RicherChange row(int lane, int n) {
        RicherChange x = new RicherChange();
        x.sheet(0, lane, n);
        return x;
    }

    // ---- promise 20

    private static void cellEdges() {
        Due.sentence(20, "Cell i of what a SHEET has, taken as a row of a LANE.");
        Still.faultless("cell(0, 0, 1)", x -> x.cell(0, 0, 1), 0);
        Still.faultless("cell(0, 5, 1)", x -> x.cell(0, 5, 1), 1);
        Still.faultless("cell(1, 0, 2)", x -> x.cell(1, 0, 2), 7);
        Still.faultless("cell(1, 2, 2)", x -> x.cell(1, 2, 2), 9);
        Still.faultless("cell(3, 0, 0)", x -> x.cell(3, 0, 0), 'q');
        Still.faultless("cell(3, 12, 0)", x -> x.cell(3, 12, 0), '1');
    }

    private static void cellUnknown() {
        Due.sentence(20, "LOST: UNKNOWN");
        for (int k : Still.beyond(0, 3)) {
            Still.lost(Still::town, "cell(" + k + ", 0, 0)", x -> x.cell(k, 0, 0), 0);
            Still.lost(Still::town, "cell(" + k + ", -1, 3)", x -> x.cell(k, -1, 3), 0);
        }
    }

    private static void cellOutside() {
        Due.sentence(20, "OUTSIDE: lane");
        for (int k = 0; k < 4; k++) {
            int sheet = k;
            for (int lane : Still.beyond(0, 2)) {
                Still.lost(Still::town, "cell(" + k + ", 0, " + lane + ")", x -> x.cell(sheet, 0, lane), 0);
                Still.lost(Still::town, "cell(" + k + ", -1, " + lane + ")", x -> x.cell(sheet, -1, lane), 0);
            }
        }
    }

    private static void cellCast() {
        Due.sentence(20, "CAST (nothing is no CAST)");
        for (int k = 0; k < 4; k++) {
            for (int l = 0; l < 3; l++) {
                int sheet = k;
                int lane = l;
                int fault = k == 2 ? Due.NULL : l == LANE_OF[k] ? Due.INDEX : Due.CAST;
                for (int i : Still.beyond(0, LENGTH_OF[k] - 1)) {
                    String call = "cell(" + k + ", " + i + ", " + l + ")";
                    Still.lost(Still::town, call, x -> x.cell(sheet, i, lane), fault);
                }
                if (fault == Due.CAST) {
                    Still.lost(Still::town, "cell(" + k + ", 0, " + l + ")", x -> x.cell(sheet, 0, lane), fault);
                }
            }
        }
        // A row of none is of its LANE alone, too.
        Still.lost(() -> row(0, 0), "cell(0, 0, 2) of none", x -> x.cell(0, 0, 2), Due.CAST);
    }

    private static void cellNull() {
        Due.sentence(20, "NULL");
        for (int l = 0; l < 3; l++) {
            int lane = l;
            Still.lost(Still::town, "cell(2, 0, " + l + ")", x -> x.cell(2, 0, lane), Due.NULL);
        }
    }

    private static void cellIndex() {
        Due.sentence(20, "INDEX");
        for (int l = 0; l < 3; l++) {
            int lane = l;
            for (int n : new int[] {0, 1, 60}) {
                for (int i : Still.beyond(0, n - 1)) {
                    Still.lost(() -> row(lane, n), "cell " + i + " of " + n, x -> x.cell(0, i, lane), Due.INDEX);
                }
            }
        }
    }

    // ---- promise 21

    private static void copyEachSpan() {
        Due.sentence(21, "n cells of a SHEET from i on go to another one (perhaps the same) from j on");
        for (int other = 0; other < 2; other++) {
            for (int i = -2; i <= 7; i++) {
                for (int j = -2; j <= 7; j++) {
                    for (int n = -2; n <= 7; n++) {
                        copy(other, i, j, n);
                    }
                }
            }
        }
    }

    /** Of 5 cells to 3, or to the same 5. */
    private static void copy(int other, int i, int j, int n) {
        RicherChange x = new RicherChange();
        Due.row(x, 0, 2, 10, 11, 12, 13, 14);
        Due.row(x, 1, 2, 20, 21, 22);
        int length = other == 0 ? 5 : 3;
        boolean isInside = i >= 0 && j >= 0 && n >= 0 && i + n <= 5 && j + n <= length;
        String call = "copy(0, " + i + ", " + other + ", " + j + ", " + n + ")";
        long got = x.copy(0, i, other, j, n);
        Due.due(call, got, isInside ? n : -10 - Due.INDEX);
        Due.due("fault() behind " + call, x.fault(), isInside ? 0 : Due.INDEX);
        for (int k = 0; k < 5; k++) {
            boolean isCopied = other == 0 && isInside && k >= j && k < j + n;
            Due.due("cell " + k + " of the first, " + call, x.cell(0, k, 2), isCopied ? 10 + i + k - j : 10 + k);
        }
        for (int k = 0; k < 3; k++) {
            boolean isCopied = other == 1 && isInside && k >= j && k < j + n;
            Due.due("cell " + k + " of the other, " + call, x.cell(1, k, 2), isCopied ? 10 + i + k - j : 20 + k);
        }
    }

    private static void copyAsTheyWere() {
        Due.sentence(21, "as they were");
        for (int lane = 0; lane < 3; lane++) {
            RicherChange x = new RicherChange();
            Due.row(x, 0, lane, 1, 2, 3, 4, 5);
            Due.due("one up", x.copy(0, 0, 0, 1, 4), 4);
            int[] up = {1, 1, 2, 3, 4};
            for (int k = 0; k < 5; k++) {
                Due.due("one up, cell " + k, x.cell(0, k, lane), up[k]);
            }
            Due.due("two down", x.copy(0, 2, 0, 0, 3), 3);
            int[] down = {2, 3, 4, 3, 4};
            for (int k = 0; k < 5; k++) {
                Due.due("two down, cell " + k, x.cell(0, k, lane), down[k]);
            }
        }
    }

    private static void copyAll() {
        Due.sentence(21, "n cells of a SHEET from i on");
        RicherChange x = new RicherChange();
        x.sheet(0, 1, 60);
        x.sheet(3, 1, 60);
        for (int i = 0; i < 60; i++) {
            x.put(0, i, 1000 + i);
        }
        Due.due("all 60", x.copy(0, 0, 3, 0, 60), 60);
        for (int i = 0; i < 60; i++) {
            Due.due("cell " + i, x.cell(3, i, 1), 1000 + i);
        }
        Due.due("none at the end", x.copy(0, 60, 3, 60, 0), 0);
        Due.fault(x, "61", x.copy(0, 0, 3, 0, 61), Due.INDEX);
        // The rows stay two.
        x.put(3, 0, 5);
        Due.due("the first stays", x.cell(0, 0, 1), 1000);
    }

    private static void copyUnknown() {
        Due.sentence(21, "UNKNOWN");
        for (int k : Still.beyond(0, 3)) {
            Still.faultless("copy(" + k + ", 0, 0, 0, 1)", x -> x.copy(k, 0, 0, 0, 1), UNKNOWN);
            Still.faultless("copy(0, 0, " + k + ", 0, 1)", x -> x.copy(0, 0, k, 0, 1), UNKNOWN);
            // Ahead of NULL, of whichever.
            Still.faultless("copy(2, 0, " + k + ", 0, 1)", x -> x.copy(2, 0, k, 0, 1), UNKNOWN);
            Still.faultless("copy(" + k + ", -1, 2, -1, -1)", x -> x.copy(k, -1, 2, -1, -1), UNKNOWN);
        }
    }

    private static void copyNull() {
        Due.sentence(21, "NULL (the first, the other)");
        for (int k = 0; k < 4; k++) {
            int sheet = k;
            Still.faulty("copy(2, 0, " + k + ", 0, 0)", x -> x.copy(2, 0, sheet, 0, 0), Due.NULL);
            Still.faulty("copy(" + k + ", 0, 2, 0, 0)", x -> x.copy(sheet, 0, 2, 0, 0), Due.NULL);
            // Ahead of INDEX.
            Still.faulty("copy(2, -1, " + k + ", -1, -1)", x -> x.copy(2, -1, sheet, -1, -1), Due.NULL);
            Still.faulty("copy(" + k + ", -1, 2, 99, 99)", x -> x.copy(sheet, -1, 2, 99, 99), Due.NULL);
        }
    }

    private static void copyCast() {
        Due.sentence(21, "CAST (unlike LANES)");
        int[] rows = {0, 1, 3};
        for (int k : rows) {
            for (int other : rows) {
                String call = "copy(" + k + ", 0, " + other + ", 0, 0)";
                if (k == other) {
                    Still.faultless(call, x -> x.copy(k, 0, other, 0, 0), 0);
                } else {
                    Still.faulty(call, x -> x.copy(k, 0, other, 0, 0), Due.CAST);
                    Still.faulty(call + " of 1", x -> x.copy(k, 0, other, 0, 1), Due.CAST);
                    // Ahead of INDEX.
                    Still.faulty(call + " beyond", x -> x.copy(k, -1, other, 99, -1), Due.CAST);
                }
            }
        }
    }

    private static void copyIndex() {
        Due.sentence(21, "INDEX: i, j, n below 0 or beyond");
        int[][] beyond = {{-1, 0, 0}, {0, -1, 0}, {0, 0, -1}, {7, 0, 0}, {0, 4, 0}, {6, 0, 1}, {0, 3, 1}, {0, 0, 4}, {3, 0, 4},
            {MOST, 0, 0}, {0, MOST, 0}, {0, 0, MOST}, {1, 1, MOST}, {MOST, 0, 1}, {0, MOST, 1}, {MOST, MOST, MOST},
            {LEAST, 0, 0}, {0, LEAST, 0}, {0, 0, LEAST}, {LEAST, LEAST, LEAST}, {1, 0, LEAST}, {6, 3, LEAST}};
        Supplier<RicherChange> made = () -> {
            RicherChange x = Still.town();
            Due.row(x, 1, 1, 7, 8, 9);
            return x;
        };
        for (int[] b : beyond) {
            String call = "copy(0, " + b[0] + ", 1, " + b[1] + ", " + b[2] + ")";
            Still.faulty(made, call, x -> x.copy(0, b[0], 1, b[1], b[2]), Due.INDEX);
        }
        Still.faultless(made, "copy(0, 6, 1, 3, 0)", x -> x.copy(0, 6, 1, 3, 0), 0);
        Still.faultless(made, "copy(0, 0, 0, 0, 6)", x -> x.copy(0, 0, 0, 0, 6), 6);
    }
}
