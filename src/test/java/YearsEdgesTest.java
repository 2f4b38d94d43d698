import java.util.function.Supplier;

/** Boundary cases of promises 8 to 10, a method for each sentence. */
final class YearsEdgesTest {
    private static final int UNKNOWN = RicherChange.UNKNOWN, OUTSIDE = RicherChange.OUTSIDE,
        STATE = RicherChange.STATE, NONE = RicherChange.NONE;
    private static final int LEAST = Integer.MIN_VALUE, MOST = Integer.MAX_VALUE;
    private static final int[] WHAT = {0, 1, 2, 3, 10, 11, 12, 13, 14, 15, 20, 21, 22, 23, 24, 25};

    public static void main(String[] args) {
        yearOfNoPairs();
        yearOfTwentyPairs();
        yearAtTheEndOfARow();
        yearAtNoCostAndTheMost();
        yearFirstWrong();
        yearFirstWrongAsItGoesOn();
        yearWrongOfAnyWhat();
        yearNoSuchHouse();
        yearOfAllHouses();
        yearFairOfSeveral();
        yearChangesNothing();
        yearUnknownSheet();
        yearOutside();
        yearWhat();
        yearState();
        yearCast();
        yearNull();
        yearIndex();
        yearIndexOfNoPairs();
        yearUnknownCell();
        nameToPay();
        nameToChange();
        nameAtNoCost();
        nameUnknown();
        nameOutside();
        safeNone();
        safeAll();
        safeAsMuchLand();
        safeLeast();
        safeUnknown();
        safeOutside();
        Due.end();
    }

    private static Supplier<RicherChange> of(String text, int... cells) {
        return () -> {
            RicherChange x = Due.of(text);
            Due.row(x, 0, 2, cells);
            return x;
        };
    }

    /** All that may be asked of a YEAR, in the order of WHAT. */
    private static void asked(Supplier<RicherChange> made, int cost, int i, int n, int... want) {
        for (int k = 0; k < WHAT.length; k++) {
            int what = WHAT[k];
            String call = "year(" + cost + ", 0, 2, " + i + ", " + n + ", " + what + ")";
            Still.faultless(made, call, x -> x.year(cost, 0, 2, i, n, what), want[k]);
        }
    }

    /** The same for what is a FIRST WRONG. */
    private static void wrongAt(Supplier<RicherChange> made, int cost, int n, int pair) {
        int[] want = new int[WHAT.length];
        for (int k = 0; k < want.length; k++) {
            want[k] = WHAT[k] == 1 ? pair : -100 - pair;
        }
        asked(made, cost, 0, n, want);
    }

    // ---- promise 8

    private static void yearOfNoPairs() {
        Due.sentence(8, "n (0 .. 20)");
        Supplier<RicherChange> made = of("q;h12;k43;t61", 9, 9);
        for (int i = 0; i <= 2; i++) {
            asked(made, 9, i, 0, 39, NONE, 0, 0, 1, 4, 6, NONE, NONE, NONE, 0, 0, 0, NONE, NONE, NONE);
        }
        asked(of("q;h12;k43;t61"), 0, 0, 0, 39, NONE, 0, 0, 1, 4, 6, NONE, NONE, NONE, 0, 0, 0, NONE, NONE, NONE);
    }

    private static void yearOfTwentyPairs() {
        Due.sentence(8, "n (0 .. 20)");
        Supplier<RicherChange> made = of("q;h99;h00", new int[42]);
        // 18 pays 1 each time till it has nothing; then it is still the least of two who have nothing.
        asked(made, 1, 0, 20, 0, NONE, 0, 20, 0, 0, NONE, NONE, NONE, NONE, 20, 0, NONE, NONE, NONE, NONE);
        asked(made, 1, 2, 17, 1, NONE, 0, 17, 1, 0, NONE, NONE, NONE, NONE, 17, 0, NONE, NONE, NONE, NONE);
        Still.faultless(made, "21 pairs", x -> x.year(1, 0, 2, 0, 21, 0), OUTSIDE);
    }

    private static void yearAtTheEndOfARow() {
        Due.sentence(8, "cells of a SHEET from i on (2 n)");
        int[] cells = new int[60];
        for (int k = 20; k < 60; k++) {
            cells[k] = 1;
        }
        Supplier<RicherChange> made = of("q;h55;h99", cells);
        asked(made, 0, 20, 20, 28, NONE, 0, 20, 5, 9, NONE, NONE, NONE, NONE, 0, 20, NONE, NONE, NONE, NONE);
        asked(made, 0, 18, 20, 28, NONE, 0, 19, 5, 9, NONE, NONE, NONE, NONE, 1, 19, NONE, NONE, NONE, NONE);
        // A pair begins at any place: 0 points at 1 first, then 1 pays.
        asked(made, 0, 19, 20, 28, NONE, 0, 20, 5, 9, NONE, NONE, NONE, NONE, 0, 20, NONE, NONE, NONE, NONE);
        Still.faulty(made, "from 21 on", x -> x.year(0, 0, 2, 21, 20, 0), Due.INDEX);
    }

    private static void yearAtNoCostAndTheMost() {
        Due.sentence(8, "at a COST (0 .. 9; nothing is changed)");
        Supplier<RicherChange> made = of("q;h12;h43", 0, 1, 0, 0);
        asked(made, 0, 0, 2, 10, NONE, 0, 1, 1, 4, NONE, NONE, NONE, NONE, 1, 1, NONE, NONE, NONE, NONE);
        // They change, 0 has nothing left, then pays out of nothing.
        asked(made, 9, 0, 2, 3, NONE, 1, 0, 0, 1, NONE, NONE, NONE, NONE, 2, 0, NONE, NONE, NONE, NONE);
    }

    private static void yearFirstWrong() {
        Due.sentence(8, "FIRST WRONG: the first pair by which one POINTS where one may not.");
        // 0 and 1 have as much LAND, 2 one more, 3 one less.
        String text = "q;h50;h50;h60;h40";
        wrongAt(of(text, 0, 1), 0, 1, 0);
        wrongAt(of(text, 1, 0), 0, 1, 0);
        wrongAt(of(text, 0, 3), 0, 1, 0);
        wrongAt(of(text, 0, 2, 2, 2, 3, 0, 2, 0), 0, 4, 3);
        wrongAt(of(text, 0, 2, 0, 3, 2, 0, 1, 0), 0, 4, 1);
        int[] cells = new int[40];
        cells[38] = 2;
        wrongAt(of(text, cells), 0, 20, 19);
        Still.faultless(of(text, cells), "ahead of the last", x -> x.year(0, 0, 2, 0, 19, 1), NONE);
        Still.faultless(of(text, 0, 2), "one more", x -> x.year(0, 0, 2, 0, 1, 1), NONE);
        Still.faultless(of(text, 3, 0), "one more", x -> x.year(0, 0, 2, 0, 1, 1), NONE);
        Still.faultless(of(text, 2, 2), "itself", x -> x.year(0, 0, 2, 0, 1, 1), NONE);
    }

    private static void yearFirstWrongAsItGoesOn() {
        Due.sentence(8, "A YEAR: a row of pairs (HOUSE that is named, HOUSE), one behind another");
        // 1 pays down to as much LAND as 0 has: then it may not be pointed at.
        wrongAt(of("q;h50;h60", 1, 1, 0, 1), 1, 2, 1);
        // By less it may, by more it is 1 that may.
        Still.faultless(of("q;h50;h61", 1, 1, 0, 1), "coin ahead of land", x -> x.year(1, 0, 2, 0, 2, 1), NONE);
        Still.faultless(of("q;h50;h60", 1, 1, 1, 0), "the other way", x -> x.year(2, 0, 2, 0, 2, 1), NONE);
        wrongAt(of("q;h50;h60", 1, 0, 1, 1), 2, 2, 0);
    }

    private static void yearWrongOfAnyWhat() {
        Due.sentence(8, "of one with a FIRST WRONG: -100 less that (but what 1)");
        // Also of HOUSES that there are not.
        wrongAt(of("q;h12;h43", 0, 0, 1, 0), 3, 2, 1);
        wrongAt(of("q;h12;h43;h43;h43;h43;h43", 0, 0, 0, 5, 5, 1), 0, 3, 2);
    }

    private static void yearNoSuchHouse() {
        Due.sentence(8, "NONE: there is no such HOUSE");
        for (int n = 2; n <= 6; n++) {
            StringBuilder text = new StringBuilder("q");
            for (int h = 0; h < n; h++) {
                text.append(";h").append(h + 1).append(9);
            }
            Supplier<RicherChange> made = of(text.toString(), 0, 0);
            for (int h = 0; h < 6; h++) {
                int house = h;
                Still.faultless(made, "LAND of " + h + " of " + n, x -> x.year(3, 0, 2, 0, 1, 10 + house), h < n ? h + 1 : NONE);
                Still.faultless(made, "PAYS " + h + " of " + n, x -> x.year(3, 0, 2, 0, 1, 20 + house), h >= n ? NONE : h == 0 ? 1 : 0);
            }
        }
    }

    private static void yearOfAllHouses() {
        Due.sentence(8, "WORTH of all at its end, together (what 0)");
        RicherChange x = of("q;h11;h11;h11;k11;t11;t99", 5, 5).get();
        Due.due("of six", x.year(9, 0, 2, 0, 1, 0), 3 * 2 + 7 + 14 + 28);
        // Of HOUSES of an earlier CITY nothing is left.
        for (int n = 5; n >= 2; n--) {
            Due.city(x, "q" + ";k23".repeat(n));
            Due.due("of " + n, x.year(9, 0, 2, 0, 0, 0), 10 * n);
            Due.due("the sixth of " + n, x.year(9, 0, 2, 0, 1, 0), UNKNOWN);
        }
    }

    private static void yearFairOfSeveral() {
        Due.sentence(8, "of several the least HOUSE is that");
        // 9 each: only the least of them is FAIR; ahead of each pair it is asked again.
        Supplier<RicherChange> made = of("q;h09;h90;k40", 0, 0, 1, 1, 2, 2);
        for (int first = 0; first < 3; first++) {
            int i = 2 * first;
            Still.faultless(made, "alone " + first, x -> x.year(1, 0, 2, i, 1, 3), first == 0 ? 1 : 0);
        }
        Still.faultless(made, "all at a COST", x -> x.year(1, 0, 2, 0, 3, 3), 3);
        Still.faultless(made, "all at none", x -> x.year(0, 0, 2, 0, 3, 3), 1);
    }

    private static void yearChangesNothing() {
        Due.sentence(8, "nothing is changed");
        for (int what : WHAT) {
            Still.faultless(of("q;k13;h91", 0, 1, 1, 1, 0, 0), "a year, " + what, x -> 0 * x.year(8, 0, 2, 0, 3, what), 0);
        }
        RicherChange x = of("q;k13;h91", 0, 1, 0, 0).get();
        int first = x.year(8, 0, 2, 0, 2, 0);
        Due.due("the same again", x.year(8, 0, 2, 0, 2, 0), first);
        Due.due("how many CHANGE", x.year(8, 0, 2, 0, 1, 2), 1);
        Due.due("how many CHANGE, again", x.year(8, 0, 2, 0, 1, 2), 1);
        Due.due("how often it PAYS", x.year(8, 0, 2, 0, 2, 20), 2);
        Due.due("how often it PAYS, again", x.year(8, 0, 2, 0, 2, 20), 2);
        Due.due("of no pair then", x.year(8, 0, 2, 0, 0, 20), 0);
        x = of("q;k13;h91", 1, 1).get();
        Due.due("how many are FAIR", x.year(8, 0, 2, 0, 1, 3), 1);
        Due.due("how many are FAIR, again", x.year(8, 0, 2, 0, 1, 3), 1);
        Due.due("of no pair then", x.year(8, 0, 2, 0, 0, 3), 0);
    }

    private static void yearUnknownSheet() {
        Due.sentence(8, "UNKNOWN: SHEET");
        for (int k : Still.beyond(0, 3)) {
            Still.faultless("year(0, " + k + ", 1, 0, 1, 0)", x -> x.year(0, k, 1, 0, 1, 0), UNKNOWN);
            // Ahead of all else.
            Still.faultless("year(10, " + k + ", 3, -1, 21, 4)", x -> x.year(10, k, 3, -1, 21, 4), UNKNOWN);
            Still.faultless(RicherChange::new, "no CITY: year(0, " + k + ", ..)", x -> x.year(0, k, 0, 0, 0, 0), UNKNOWN);
        }
    }

    private static void yearOutside() {
        Due.sentence(8, "OUTSIDE: cost, lane, n (0 .. 20)");
        for (int cost : Still.beyond(0, 9)) {
            Still.faultless("year(" + cost + ", 0, 1, 0, 1, 0)", x -> x.year(cost, 0, 1, 0, 1, 0), OUTSIDE);
        }
        for (int lane : Still.beyond(0, 2)) {
            Still.faultless("year(0, 0, " + lane + ", 0, 1, 0)", x -> x.year(0, 0, lane, 0, 1, 0), OUTSIDE);
        }
        for (int n : Still.beyond(0, 20)) {
            Still.faultless("year(0, 0, 1, 0, " + n + ", 0)", x -> x.year(0, 0, 1, 0, n, 0), OUTSIDE);
        }
        // 2 n would wrap to 0, 2.
        Still.faultless("n wraps", x -> x.year(0, 0, 1, 0, LEAST, 0), OUTSIDE);
        Still.faultless("n wraps", x -> x.year(0, 0, 1, 0, LEAST + 1, 0), OUTSIDE);
        aheadOfTheRest("cost", 10, 0, 0, 0);
        aheadOfTheRest("lane", 0, 3, 0, 0);
        aheadOfTheRest("n", 0, 0, -1, 0);
        aheadOfTheRest("what", 0, 0, 0, 4);
    }

    /** STATE, CAST, NULL, INDEX are come to later. */
    private static void aheadOfTheRest(String told, int cost, int lane, int n, int what) {
        Still.faultless(RicherChange::new, told + " ahead of STATE", x -> x.year(cost, 0, lane, -1, n, what), OUTSIDE);
        Still.faultless(told + " ahead of CAST", x -> x.year(cost, 0, lane, -1, n, what), OUTSIDE);
        Still.faultless(told + " ahead of NULL", x -> x.year(cost, 2, lane, -1, n, what), OUTSIDE);
        Still.faultless(told + " ahead of INDEX", x -> x.year(cost, 3, lane, -1, n, what), OUTSIDE);
    }

    private static void yearWhat() {
        Due.sentence(8, "what (0 .. 3, 10 .. 15, 20 .. 25)");
        for (int w = -12; w < 40; w++) {
            int what = w;
            boolean isAsked = w >= 0 && w <= 3 || w >= 10 && w <= 15 || w >= 20 && w <= 25;
            if (!isAsked) {
                Still.faultless("year, what " + w, x -> x.year(0, 0, 1, 0, 1, what), OUTSIDE);
            }
        }
        for (int what : new int[] {LEAST, LEAST + 10, -10, 256, 65546, MOST}) {
            Still.faultless("year, what " + what, x -> x.year(0, 0, 1, 0, 1, what), OUTSIDE);
        }
    }

    private static void yearState() {
        Due.sentence(8, "STATE: there is no CITY");
        Supplier<RicherChange> rows = () -> {
            RicherChange x = new RicherChange();
            Due.write(x, 0, 1, "q;h12");
            x.city(0, 1, 0, 5);
            return x;
        };
        Still.faultless(rows, "ahead of UNKNOWN cells", x -> x.year(0, 0, 1, 0, 1, 0), STATE);
        Still.faultless(rows, "of no pair", x -> x.year(0, 0, 1, 0, 0, 1), STATE);
        Still.faultless(rows, "ahead of CAST", x -> x.year(0, 0, 0, 0, 0, 0), STATE);
        Still.faultless(rows, "ahead of NULL", x -> x.year(0, 2, 0, 0, 0, 0), STATE);
        Still.faultless(rows, "ahead of INDEX", x -> x.year(0, 0, 1, -1, 20, 25), STATE);
    }

    private static void yearCast() {
        Due.sentence(8, "CAST");
        int[] laneOf = {1, 2, -1, 0};
        for (int k = 0; k < 4; k++) {
            for (int l = 0; l < 3; l++) {
                int sheet = k;
                int lane = l;
                if (k != 2 && l != laneOf[k]) {
                    Still.faulty("year(0, " + k + ", " + l + ", 0, 0, 0)", x -> x.year(0, sheet, lane, 0, 0, 0), Due.CAST);
                    Still.faulty("ahead of INDEX, " + k + ", " + l, x -> x.year(0, sheet, lane, -1, 20, 0), Due.CAST);
                }
            }
        }
    }

    private static void yearNull() {
        Due.sentence(8, "NULL");
        for (int l = 0; l < 3; l++) {
            int lane = l;
            Still.faulty("year(0, 2, " + l + ", 0, 0, 1)", x -> x.year(0, 2, lane, 0, 0, 1), Due.NULL);
            Still.faulty("year(0, 2, " + l + ", -1, 20, 1)", x -> x.year(0, 2, lane, -1, 20, 1), Due.NULL);
        }
    }

    private static void yearIndex() {
        Due.sentence(8, "INDEX");
        int[][] beyond = {{0, 4}, {1, 3}, {5, 1}, {6, 1}, {-1, 1}, {-2, 1}, {0, 20}, {MOST, 1}, {MOST, 20}, {MOST - 1, 1},
            {MOST - 39, 20}, {LEAST, 1}, {LEAST, 20}};
        for (int[] b : beyond) {
            String call = "year(0, 0, 1, " + b[0] + ", " + b[1] + ", 0)";
            Still.faulty(call, x -> x.year(0, 0, 1, b[0], b[1], 0), Due.INDEX);
        }
        // Ahead of cells that are no HOUSE and of a FIRST WRONG.
        Still.faulty(of("q;h12;h34", 9, 9, 9), "no HOUSE", x -> x.year(0, 0, 2, 0, 2, 0), Due.INDEX);
        Still.faulty(of("q;h12;h34", 1, 0, 1), "FIRST WRONG", x -> x.year(0, 0, 2, 0, 2, 1), Due.INDEX);
        Still.faultless("the last two cells", x -> x.year(0, 0, 1, 4, 1, 21), 1);
    }

    private static void yearIndexOfNoPairs() {
        Due.sentence(8, "INDEX (.. also where i is not 0 .. how many there are, if none of them is taken, too)");
        for (int i = 0; i <= 6; i++) {
            int from = i;
            Still.faultless("year(0, 0, 1, " + i + ", 0, 1)", x -> x.year(0, 0, 1, from, 0, 1), NONE);
        }
        for (int i : Still.beyond(0, 6)) {
            Still.faulty("year(0, 0, 1, " + i + ", 0, 1)", x -> x.year(0, 0, 1, i, 0, 1), Due.INDEX);
        }
        Supplier<RicherChange> empty = of("q;h12;h34");
        Still.faultless(empty, "of none, from 0", x -> x.year(0, 0, 2, 0, 0, 1), NONE);
        Still.faulty(empty, "of none, from 1", x -> x.year(0, 0, 2, 1, 0, 1), Due.INDEX);
        Still.faulty(empty, "of none, from -1", x -> x.year(0, 0, 2, -1, 0, 1), Due.INDEX);
    }

    private static void yearUnknownCell() {
        Due.sentence(8, "UNKNOWN, pair by pair: a cell is no HOUSE");
        for (int cell : Still.beyond(0, 1)) {
            for (int what : WHAT) {
                unknown("named", what, 1, cell, 0);
                unknown("pointed at", what, 1, 0, cell);
                unknown("itself", what, 1, cell, cell);
                unknown("behind a good pair", what, 2, 0, 1, cell, 0);
                unknown("ahead of a wrong one", what, 2, 0, cell, 1, 0);
                // Also behind one, as issue 5 told.
                unknown("behind a wrong one", what, 2, 1, 0, 0, cell);
            }
        }
        Still.faultless(of("q;h12;h34", 0, 1, 2), "a cell behind the row", x -> x.year(0, 0, 2, 0, 1, 1), NONE);
        Still.faultless(of("q;h12;h34", 2, 0, 1), "a cell ahead of the row", x -> x.year(0, 0, 2, 1, 1, 1), NONE);
    }

    private static void unknown(String told, int what, int n, int... cells) {
        Still.faultless(of("q;h12;h34", cells), told + ", what " + what, x -> x.year(1, 0, 2, 0, n, what), UNKNOWN);
    }

    // ---- promise 9

    private static void has(RicherChange x, int h, int land, int coin) {
        Due.due("LAND of " + h, x.ofHouse(h, 1), land);
        Due.due("COIN of " + h, x.ofHouse(h, 2), coin);
    }

    private static void nameToPay() {
        Due.sentence(9, "COIN is so much less, and if there is not enough, LAND by the rest (0 at least).");
        for (int cost = 0; cost <= 9; cost++) {
            for (int land = 0; land <= 9; land++) {
                for (int coin = 0; coin <= 9; coin++) {
                    RicherChange x = Due.of("q;t" + land + coin + ";h00");
                    Due.due("the one with the most LAND, cost " + cost, x.name(0, cost), 0);
                    int rest = Math.max(0, cost - coin);
                    has(x, 0, Math.max(0, land - rest), Math.max(0, coin - cost));
                    has(x, 1, 0, 0);
                    Due.due("its kind stays", x.ofHouse(0, 0), 2);
                }
            }
        }
    }

    private static void nameToChange() {
        Due.sentence(9, "If it CHANGES, the other one PAYS then (out of what it got).");
        // 3 for 7 less 5: they change, and what 0 got is coin 3, then land by 2.
        RicherChange x = Due.of("q;t12;k43");
        Due.due("name(0, 5)", x.name(0, 5), 0);
        has(x, 0, 2, 0);
        has(x, 1, 1, 2);
        Due.due("kinds stay", x.ofHouse(0, 0) * 10 + x.ofHouse(1, 0), 21);
        // One less: 3 for 3, so it pays itself.
        x = Due.of("q;t12;k43");
        Due.due("name(0, 4)", x.name(0, 4), 1);
        has(x, 0, 1, 2);
        has(x, 1, 3, 0);
        // READINGS stay as they are.
        x = Still.town();
        x.name(0, 9);
        Due.due("READINGS", x.many(3), 1);
    }

    private static void nameAtNoCost() {
        Due.sentence(9, "A HOUSE is named at a COST (0 .. 9)");
        for (int h = 0; h < 3; h++) {
            int house = h;
            Still.plain("name(" + h + ", 0)", x -> x.name(house, 0), h);
        }
    }

    private static void nameUnknown() {
        Due.sentence(9, "UNKNOWN");
        for (int h : Still.beyond(0, 2)) {
            Still.plain("name(" + h + ", 3)", x -> x.name(h, 3), UNKNOWN);
            Still.plain("name(" + h + ", 10)", x -> x.name(h, 10), UNKNOWN);
        }
    }

    private static void nameOutside() {
        Due.sentence(9, "OUTSIDE");
        for (int cost : Still.beyond(0, 9)) {
            Still.plain("name(0, " + cost + ")", x -> x.name(0, cost), OUTSIDE);
            Still.plain("name(2, " + cost + ")", x -> x.name(2, cost), OUTSIDE);
        }
    }

    // ---- promise 10

    private static void safe(String text, int h, int cost, int want) {
        Still.plain(() -> Due.of(text), "safe(" + h + ", " + cost + ") of " + text, x -> x.safe(h, cost), want);
    }

    /** At no LAND nobody may POINT at it, so there always is an amount. */
    private static void safeNone() {
        Due.sentence(10, "NONE: by none");
        for (int land = 0; land <= 18; land++) {
            for (int cost = 0; cost <= 9; cost++) {
                RicherChange x = Due.of("q;h00;h99;h09;h18;h99;t19");
                x.endow(1, 1, land);
                int least = x.safe(1, cost);
                Due.due("0 .. all its LAND: " + least, least >= 0 && least <= land ? 1 : 0, 1);
            }
        }
    }

    private static void safeAll() {
        Due.sentence(10, "the least LAND that is to be turned to COIN");
        safe("q;h01;h20", 1, 1, 2);
        safe("q;h01;h90", 1, 1, 9);
        safe("q;h01;h90", 1, 8, 9);
        // By these 0 has nothing whatever it does, so it pays.
        safe("q;h01;h90", 1, 9, 0);
        safe("q;h01;h10", 1, 1, 0);
        safe("q;h00;h90", 1, 1, 0);
        // Nobody may point at one without LAND.
        safe("q;h01;h09", 1, 1, 0);
        Supplier<RicherChange> most = () -> {
            RicherChange x = Due.of("q;h01;h00");
            x.endow(1, 1, 18);
            x.endow(1, 2, 18);
            return x;
        };
        Still.plain(most, "all 18", x -> x.safe(1, 9), 18);
        Still.plain(most, "at no COST", x -> x.safe(1, 0), 0);
    }

    private static void safeAsMuchLand() {
        Due.sentence(10, "no other HOUSE, named as all is then, has the CHOICE to POINT at it");
        safe("q;h50;h50", 1, 3, 0);
        safe("q;h50;h60", 1, 3, 1);
        safe("q;h50;h60", 0, 3, 0);
        // What is turned is COIN then, so that it has as much as before.
        safe("q;h30;h90", 1, 2, 6);
        // Its own CHOICE is none of it, nor that it is the richest.
        safe("q;h90;h03", 0, 3, 9);
        safe("q;h03;h90", 0, 3, 0);
        // They would change 9 for 9: 1 has as much by paying.
        safe("q;h90;h09", 0, 3, 0);
    }

    private static void safeLeast() {
        Due.sentence(10, "then the least HOUSE");
        // Both would pay: the least is pointed at, till it has no more LAND than 0.
        safe("q;h20;h90;h90", 1, 3, 7);
        safe("q;h20;h90;h90", 2, 3, 0);
        safe("q;h90;h90;h20", 0, 3, 7);
        safe("q;h90;h90;h20", 1, 3, 0);
        safe("q;h80;h90", 1, 1, 1);
        // 1 is kept from it by 1, 2 by 8 alone.
        safe("q;h90;h80;h10", 0, 1, 8);
    }

    private static void safeUnknown() {
        Due.sentence(10, "UNKNOWN");
        for (int h : Still.beyond(0, 2)) {
            Still.plain("safe(" + h + ", 3)", x -> x.safe(h, 3), UNKNOWN);
            Still.plain("safe(" + h + ", 10)", x -> x.safe(h, 10), UNKNOWN);
        }
    }

    private static void safeOutside() {
        Due.sentence(10, "OUTSIDE");
        for (int cost : Still.beyond(0, 9)) {
            Still.plain("safe(0, " + cost + ")", x -> x.safe(0, cost), OUTSIDE);
            Still.plain("safe(2, " + cost + ")", x -> x.safe(2, cost), OUTSIDE);
        }
    }
}
