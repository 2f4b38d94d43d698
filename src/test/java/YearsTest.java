/** Promises 8 to 10: year, name, safe. */
final class YearsTest {
    private static final int UNKNOWN = RicherChange.UNKNOWN, OUTSIDE = RicherChange.OUTSIDE,
        STATE = RicherChange.STATE, NONE = RicherChange.NONE;

    public static void main(String[] args) {
        year();
        firstWrong();
        wrongCells();
        noHouseBehindWrong();
        wrongYear();
        longestYear();
        housesOfAnEarlierCityAreGone();
        name();
        safe();
        Due.end();
    }

    private static void asked(RicherChange x, int cost, int i, int n, int[] want) {
        int[] what = {0, 1, 2, 3, 10, 11, 12, 13, 14, 15, 20, 21, 22, 23, 24, 25};
        for (int w = 0; w < what.length; w++) {
            String call = "year(" + cost + ", 0, 2, " + i + ", " + n + ", " + what[w] + ")";
            Due.due(call, x.year(cost, 0, 2, i, n, what[w]), want[w]);
            Due.due("fault after " + call, x.fault(), 0);
        }
    }

    private static void year() {
        RicherChange x = Due.of("q;h12;k43;t61");
        Due.row(x, 0, 2, 0, 2, 0, 1, 1, 1, 2, 0);
        asked(x, 2, 0, 0, new int[] {39, NONE, 0, 0, 1, 4, 6, NONE, NONE, NONE, 0, 0, 0, NONE, NONE, NONE});
        // The temple pays 2 out of 6 and 1: 24, 20 of the temple, and it was the richest.
        asked(x, 2, 0, 1, new int[] {35, NONE, 0, 1, 1, 4, 5, NONE, NONE, NONE, 0, 0, 1, NONE, NONE, NONE});
        // Then the kin pays: 4 and 1.
        asked(x, 2, 0, 2, new int[] {33, NONE, 0, 1, 1, 4, 5, NONE, NONE, NONE, 0, 1, 1, NONE, NONE, NONE});
        // Then it is named and pays itself: 3 and 0.
        asked(x, 2, 0, 3, new int[] {31, NONE, 0, 1, 1, 3, 5, NONE, NONE, NONE, 0, 2, 1, NONE, NONE, NONE});
        // At 5 the temple changes (3 for 2): 0 gets 6 and 1 and is left with 2; the temple has 1 and 2.
        asked(x, 5, 0, 1, new int[] {30, NONE, 1, 0, 2, 4, 1, NONE, NONE, NONE, 1, 0, 0, NONE, NONE, NONE});
        // The kin then has 7 in all, pays to 2, as much as it would get: it pays.
        asked(x, 5, 0, 2, new int[] {25, NONE, 1, 0, 2, 2, 1, NONE, NONE, NONE, 1, 1, 0, NONE, NONE, NONE});
        // By the changes of the first pairs the temple may now point at 0, which has more land.
        asked(x, 5, 0, 4, new int[] {18, NONE, 2, 1, 1, 0, 0, NONE, NONE, NONE, 1, 2, 1, NONE, NONE, NONE});
        asked(x, 5, 2, 1, new int[] {34, NONE, 1, 0, 2, 1, 6, NONE, NONE, NONE, 1, 0, 0, NONE, NONE, NONE});
        Due.due("nothing is changed", x.many(1) * 100 + x.many(2), 1106);
    }

    private static void firstWrong() {
        RicherChange x = Due.of("q;h12;k43;t61");
        Due.row(x, 0, 2, 0, 0, 2, 0, 1, 0);
        for (int what = 0; what < 30; what++) {
            boolean isAsked = what < 4 || what > 9 && what < 16 || what > 19 && what < 26;
            int due = isAsked ? what == 1 ? 1 : -101 : OUTSIDE;
            Due.due("year, wrong at 1, " + what, x.year(1, 0, 2, 0, 3, what), due);
            due = isAsked ? what == 1 ? 0 : -100 : OUTSIDE;
            Due.due("year, wrong at 0, " + what, x.year(1, 0, 2, 2, 2, what), due);
        }
        x = Due.of("q;h12;k13");
        Due.row(x, 0, 2, 0, 1);
        Due.due("as much land", x.year(0, 0, 2, 0, 1, 1), 0);
    }

    private static void wrongCells() {
        RicherChange x = Due.of("q;h12;k43");
        Due.row(x, 0, 2, 0, 1, 2, 0, 0, -1, 1, 0, 0, 2, 0);
        Due.due("named 2", x.year(1, 0, 2, 0, 2, 1), UNKNOWN);
        Due.due("fault()", x.fault(), 0);
        Due.due("at -1", x.year(1, 0, 2, 4, 1, 1), UNKNOWN);
        Due.due("at 2", x.year(1, 0, 2, 8, 1, 14), UNKNOWN);
        Due.due("wrong ahead of no house", x.year(1, 0, 2, 6, 2, 0), UNKNOWN);
        Due.due("wrong alone", x.year(1, 0, 2, 6, 1, 0), -100);
        Due.due("no house ahead of wrong", x.year(1, 0, 2, 4, 2, 0), UNKNOWN);
        Due.fault(x, "beyond ahead of no house", x.year(1, 0, 2, 8, 2, 0), Due.INDEX);
    }

    /** Whichever cell is no HOUSE, it is no YEAR: a wrong pair ahead of it does not hide that. */
    private static void noHouseBehindWrong() {
        int[] what = {0, 1, 2, 3, 10, 11, 15, 20, 21, 25};
        int[] noHouse = {-1, 2, 127, -128};
        for (int lane = 0; lane < 3; lane++) {
            for (int k = 0; k < 40; k++) {
                RicherChange x = Due.of("q;h12;k43");
                int[] cells = new int[40];
                cells[0] = 1;
                cells[k] = noHouse[k % noHouse.length];
                Due.row(x, 0, lane, cells);
                for (int w : what) {
                    String call = "no house in cell " + k + ", lane " + lane + ", what " + w;
                    Due.due(call, x.year(1, 0, lane, 0, 20, w), UNKNOWN);
                    Due.due("fault after " + call, x.fault(), 0);
                    // Cells behind the row are none of its own.
                    int before = w == 1 ? 0 : -100;
                    Due.due("ahead of it: " + call, x.year(1, 0, lane, 0, k / 2, w), k < 2 ? ofNoPair(w) : before);
                }
            }
        }
    }

    private static int ofNoPair(int what) {
        switch (what) {
            case 0: return 3 + 12;
            case 1: return NONE;
            case 10: return 1;
            case 11: return 4;
            case 15: return NONE;
            case 25: return NONE;
            default: return 0;
        }
    }

    private static void wrongYear() {
        RicherChange x = new RicherChange();
        Due.due("sheet 4", x.year(10, 4, 0, 0, 0, 0), UNKNOWN);
        Due.due("sheet -1", x.year(0, -1, 0, 0, 0, 0), UNKNOWN);
        Due.due("cost 10, no city", x.year(10, 0, 0, 0, 0, 0), OUTSIDE);
        Due.due("no city", x.year(0, 0, 0, 0, 0, 0), STATE);
        Due.city(x, "q;h12;k43");
        Due.row(x, 0, 1, 0, 1, 0, 1);
        Due.fault(x, "nothing", x.year(0, 1, 0, 9, 9, 0), Due.NULL);
        Due.fault(x, "unlike lane", x.year(0, 0, 0, 9, 9, 0), Due.CAST);
        Due.fault(x, "unlike lane", x.year(0, 0, 2, 0, 1, 0), Due.CAST);
        Due.fault(x, "i -1", x.year(0, 0, 1, -1, 0, 0), Due.INDEX);
        Due.fault(x, "i 5, no pair", x.year(0, 0, 1, 5, 0, 0), Due.INDEX);
        Due.due("i 4, no pair", x.year(0, 0, 1, 4, 0, 2), 0);
        Due.fault(x, "i 3", x.year(0, 0, 1, 3, 1, 0), Due.INDEX);
        Due.fault(x, "3 pairs", x.year(0, 0, 1, 0, 3, 0), Due.INDEX);
        Due.fault(x, "wrap", x.year(0, 0, 1, Integer.MAX_VALUE, 20, 0), Due.INDEX);
        Due.due("cost -1", x.year(-1, 0, 1, 0, 1, 0), OUTSIDE);
        Due.due("fault()", x.fault(), 0);
        Due.due("cost 10", x.year(10, 0, 1, 0, 1, 0), OUTSIDE);
        Due.due("lane -1", x.year(0, 0, -1, 0, 1, 0), OUTSIDE);
        Due.due("lane 3", x.year(0, 0, 3, 0, 1, 0), OUTSIDE);
        Due.due("n -1", x.year(0, 0, 1, 0, -1, 0), OUTSIDE);
        Due.due("n 21", x.year(0, 0, 1, 0, 21, 0), OUTSIDE);
        Due.due("what -1", x.year(0, 0, 1, 0, 1, -1), OUTSIDE);
    }

    private static void longestYear() {
        RicherChange x = Due.of("q;h99;h00");
        x.endow(0, 1, 18);
        x.endow(0, 2, 18);
        Due.row(x, 0, 0, new int[40]);
        Due.due("20 pairs", x.year(1, 0, 0, 0, 20, 0), 16);
        Due.due("land", x.year(1, 0, 0, 0, 20, 10), 16);
        Due.due("paid", x.year(1, 0, 0, 0, 20, 20), 20);
        // After 36 of 38 it has nothing, and the least of two who have nothing is the richest.
        Due.due("fair", x.year(9, 0, 0, 0, 20, 3), 20);
        Due.due("land", x.year(9, 0, 0, 0, 20, 10), 0);
    }

    private static void housesOfAnEarlierCityAreGone() {
        RicherChange x = Due.of("q;h20;h90;t05;t99;k99;t99");
        Due.row(x, 0, 0, 5, 5);
        Due.due("all six", x.year(9, 0, 0, 0, 1, 0), 2 + 9 + 20 + 46 + 23 + 28);
        Due.due("the sixth pays", x.year(9, 0, 0, 0, 1, 25), 1);
        Due.due("2 points at 1 of six", x.safe(1, 1), 9);
        Due.city(x, "q;h20;h90");
        Due.due("two alone", x.year(1, 0, 0, 0, 0, 0), 11);
        Due.due("the sixth is no house", x.year(1, 0, 0, 0, 1, 0), UNKNOWN);
        Due.due("nobody but 0 points at 1", x.safe(1, 1), 7);
        Due.due("the richest is one of two", x.choice(1, 1, 3), 1);
        Due.due("nobody else is to be pointed at", x.choice(1, 1, 0), 1);
    }

    private static void name() {
        RicherChange x = Due.of("q;h12;k43;t61");
        Due.due("who is pointed at pays", x.name(0, 2), 1);
        Due.due("out of coin", x.ofHouse(1, 2), 1);
        Due.due("land stays", x.ofHouse(1, 1), 4);
        x = Due.of("q;k13;h91");
        Due.due("they change", x.name(0, 8), 0);
        Due.due("land of 0", x.ofHouse(0, 1), 2);
        Due.due("coin of 0", x.ofHouse(0, 2), 0);
        Due.due("kind of 0 stays", x.ofHouse(0, 0), 1);
        Due.due("land of 1", x.ofHouse(1, 1), 1);
        Due.due("coin of 1", x.ofHouse(1, 2), 3);
        Due.due("kind of 1 stays", x.ofHouse(1, 0), 0);
        Due.due("it pays itself rather than lose by a change", x.name(1, 3), 1);
        Due.due("what is left of its coin", x.ofHouse(1, 2), 0);
        Due.due("and of its land", x.ofHouse(1, 1), 1);
        x = Due.of("q;h12;h34");
        Due.due("richest pays itself", x.name(1, 5), 1);
        Due.due("land by the rest", x.ofHouse(1, 1), 2);
        Due.due("no coin", x.ofHouse(1, 2), 0);
        Due.due("all it has", x.name(1, 9), 1);
        Due.due("land is 0 at least", x.ofHouse(1, 1), 0);
        Due.due("coin is 0 at least", x.ofHouse(1, 2), 0);
        Due.due("house -1", x.name(-1, 10), UNKNOWN);
        Due.due("house 2", x.name(2, 0), UNKNOWN);
        Due.due("cost -1", x.name(0, -1), OUTSIDE);
        Due.due("cost 10", x.name(0, 10), OUTSIDE);
        Due.due("at no cost", x.name(0, 0), 0);
        Due.due("nothing is changed", x.many(1) * 100 + x.many(2), 102);
    }

    private static void safe() {
        // As much land as the one who would point is enough.
        RicherChange x = Due.of("q;h20;h90");
        Due.due("down to 2", x.safe(1, 3), 7);
        Due.due("at no cost nobody points", x.safe(1, 0), 0);
        Due.due("the least has nobody to fear", x.safe(0, 3), 0);
        x.hide(1, 6);
        Due.due("one more", x.safe(1, 3), 1);
        x.hide(1, 1);
        Due.due("no more", x.safe(1, 3), 0);
        // The other is pointed at rather (the least house), till it is to be passed by.
        x = Due.of("q;h20;h90;h90");
        Due.due("1 of three", x.safe(1, 3), 7);
        Due.due("2 of three", x.safe(2, 3), 0);
        // Nobody but itself named: all land is needed where another has none.
        x = Due.of("q;h01;h90");
        Due.due("all of it", x.safe(1, 3), 9);
        x.endow(1, 1, 18);
        Due.due("all 18", x.safe(1, 3), 18);
        Due.due("nothing is changed", x.ofHouse(1, 1) * 100 + x.ofHouse(1, 2), 1800);
        Due.due("house -1", x.safe(-1, 10), UNKNOWN);
        Due.due("house 2", x.safe(2, 0), UNKNOWN);
        Due.due("cost -1", x.safe(0, -1), OUTSIDE);
        Due.due("cost 10", x.safe(0, 10), OUTSIDE);
    }
}
