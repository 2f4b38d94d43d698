/** Promises 11 to 16: reading, back, lands, coins, kinds, odds. */
final class ReadingsTest {
    private static final int UNKNOWN = RicherChange.UNKNOWN, OUTSIDE = RicherChange.OUTSIDE,
        FULL = RicherChange.FULL;
    private static final long LOST = RicherChange.LOST;

    public static void main(String[] args) {
        reading();
        back();
        setsOfTwo();
        kinds();
        setsStandInPlaceOfWhatIs();
        wrongSets();
        odds();
        wrongOdds();
        Due.end();
    }

    private static void reading() {
        RicherChange x = new RicherChange();
        Due.due("no city", x.reading(0, 10, 0), UNKNOWN);
        Due.city(x, "q;h12;h34");
        Due.due("a -1", x.reading(-1, 10, 0), UNKNOWN);
        Due.due("a 2", x.reading(2, 0, 0), UNKNOWN);
        Due.due("b -1", x.reading(0, 10, -1), UNKNOWN);
        Due.due("b 2", x.reading(0, 0, 2), UNKNOWN);
        Due.due("cost -1", x.reading(0, -1, 0), OUTSIDE);
        Due.due("cost 10", x.reading(0, 10, 0), OUTSIDE);
        for (int k = 0; k < 8; k++) {
            Due.due("reading " + k, x.reading(k % 2, 9, 1), k);
            Due.due("many(3)", x.many(3), k + 1);
        }
        Due.due("a ninth", x.reading(0, 0, 0), FULL);
        Due.due("a ninth at 10", x.reading(0, 10, 0), OUTSIDE);
        Due.due("a ninth of none", x.reading(2, 0, 0), UNKNOWN);
        Due.due("many(3)", x.many(3), 8);
    }

    private static void back() {
        RicherChange x = new RicherChange();
        Due.due("none of none", x.back(0), 0);
        Due.due("one of none", x.back(1), OUTSIDE);
        Due.city(x, "q;h12;h34");
        x.reading(0, 0, 0);
        x.reading(0, 0, 1);
        x.reading(1, 0, 0);
        Due.due("-1", x.back(-1), OUTSIDE);
        Due.due("4 of 3", x.back(4), OUTSIDE);
        Due.due("0 of 3", x.back(0), 3);
        Due.due("at no cost nobody points", x.lands(0), 0);
        Due.due("2 of 3", x.back(2), 1);
        Due.due("the first is left", x.lands(0), 1023);
        Due.due("the next one is 1", x.reading(1, 3, 1), 1);
        Due.due("all", x.back(2), 0);
        Due.due("none", x.many(3), 0);
    }

    /** Two houses 0 (1 and 2) and 1 (5 and 0), at 2: when does 0 point at 1? */
    private static void setsOfTwo() {
        RicherChange x = Due.of("q;h12;h50");
        Due.due("all without readings", x.lands(0), 1023);
        Due.due("all without readings", x.coins(1), 1023);
        Due.due("all without readings", x.kinds(1), 7);
        x.reading(0, 2, 1);
        // LAND l and 2: 1 pays where l and 2 is 3 at most, that is by l 0, 1 (0 keeps all).
        // Else it changes, and 0 has 3 after it, to be more than l and 2 less 2: l is 2.
        Due.due("lands of 0", x.lands(0), 0b111);
        // LAND 1 and c: 1 pays where c is 2 at most; else 0 has 3 by it, to be more than c less 1: c is 3.
        Due.due("coins of 0", x.coins(0), 0b1111);
        // LAND l of 1: more than 1, and l less 2 at least 3, or what 0 gets (l less 2) more than 1.
        Due.due("lands of 1", x.lands(1), 0b1111110000);
        Due.due("coins of 1", x.coins(1), 1023);
        Due.due("kinds of 0", x.kinds(0), 7);
        x.reading(1, 9, 1);
        Due.due("one more that always is so", x.lands(1), 0b1111110000);
        x.reading(0, 2, 0);
        Due.due("both can't be", x.lands(1), 0);
        Due.due("both can't be", x.kinds(1), 0);
        x.back(3);
        x.reading(0, 2, 0);
        Due.due("the rest", x.lands(0), 1023 - 0b111);
        Due.due("the rest", x.coins(0), 1023 - 0b1111);
        Due.due("the rest", x.lands(1), 0b1111);
        Due.due("the rest", x.kinds(0), 0);
    }

    /** A choice by whom to point at hangs on kinds nowhere: worth is higher by more at every kind. */
    private static void kinds() {
        RicherChange x = Due.of("q;h12;k50;t33");
        for (int h = 0; h < 3; h++) {
            Due.due("kinds", x.kinds(h), 7);
        }
        x.reading(0, 2, x.choice(0, 2, 0));
        x.reading(2, 2, x.choice(2, 2, 0));
        for (int h = 0; h < 3; h++) {
            Due.due("kinds", x.kinds(h), 7);
        }
        Due.due("the city is as it was", x.ofHouse(1, 0) * 10 + x.ofHouse(2, 0), 12);
    }

    private static void setsStandInPlaceOfWhatIs() {
        RicherChange x = Due.of("q;h12;h50");
        x.reading(0, 2, 1);
        x.endow(1, 1, 18);
        Due.due("what is now is tried from 0 to 9 alone", x.lands(1), 0b1111110000);
        Due.due("by what the other has now", x.lands(0), 1023);
        Due.due("nothing is changed", x.many(1) * 100 + x.many(2), 1902);
    }

    private static void wrongSets() {
        RicherChange x = new RicherChange();
        for (int h = -1; h < 3; h++) {
            Due.due("lands", x.lands(h), UNKNOWN);
            Due.due("coins", x.coins(h), UNKNOWN);
            Due.due("kinds", x.kinds(h), UNKNOWN);
        }
        Due.city(x, "q;h12;h50");
        for (int h : new int[] {-1, 2, Integer.MAX_VALUE, Integer.MIN_VALUE}) {
            Due.due("lands", x.lands(h), UNKNOWN);
            Due.due("coins", x.coins(h), UNKNOWN);
            Due.due("kinds", x.kinds(h), UNKNOWN);
        }
    }

    private static void odds(String city, int cost, long upper, long lower) {
        RicherChange x = Due.of(city);
        Due.due("odds of " + city + " at " + cost + ", upper", x.odds(cost, 0), upper);
        Due.due("odds of " + city + " at " + cost + ", lower", x.odds(cost, 1), lower);
    }

    private static void odds() {
        odds("q;h12;h50", 0, 1, 2);
        odds("q;h12;h50", 2, 1, 1);
        // 9 and 9 in 2 stand far above what the others have, so it pays.
        odds("q;h12;h50;h99", 9, 1, 1);
        odds("q;h11;h20;h90;h09", 1, 3, 4);
        odds("q;h10;h10;h10;h10;h10;h90", 1, 1, 1);
        odds("q;h10;h10;h10;h10;h10;h90", 0, 1, 6);
        odds("q;h10;h90;k50;k80", 2, 1, 4);
        // Only the richest pays for itself; the others point at one who is not.
        odds("q;h19;h20;h00", 1, 1, 3);
        odds("q;t05;h92;h95", 1, 0, 1);
    }

    private static void wrongOdds() {
        RicherChange x = new RicherChange();
        Due.due("no city", x.odds(0, 1), LOST);
        Due.city(x, "q;h12;h50");
        Due.due("cost -1", x.odds(-1, 0), LOST);
        Due.due("cost 10", x.odds(10, 0), LOST);
        Due.due("which -1", x.odds(0, -1), LOST);
        Due.due("which 2", x.odds(0, 2), LOST);
        Due.due("no fault", x.fault(), 0);
    }
}
