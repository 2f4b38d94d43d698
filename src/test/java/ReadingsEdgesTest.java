import java.util.function.Supplier;

/** Boundary cases of promises 11 to 16, a method for each sentence. */
final class ReadingsEdgesTest {
    private static final int UNKNOWN = RicherChange.UNKNOWN, OUTSIDE = RicherChange.OUTSIDE,
        FULL = RicherChange.FULL;
    private static final long LOST = RicherChange.LOST;
    private static final int ALL = 1023;
    private static final String SIX = "q;h00;k19;t91;h99;k40;t04";

    public static void main(String[] args) {
        readingNumbers();
        readingOfAny();
        readingUnknown();
        readingOutside();
        readingFull();
        backRange();
        backWithoutACity();
        backOutside();
        setsWithoutReadings();
        setsOfAllReadings();
        landsEdges();
        landsOfMoreThanNine();
        coinsEdges();
        coinsOfMoreThanNine();
        kindsAllOrNone();
        landsUnknown();
        coinsUnknown();
        kindsUnknown();
        oddsOfEachShare();
        oddsOfNone();
        oddsLost();
        Due.end();
    }

    private static Supplier<RicherChange> withReadings(int n) {
        return () -> {
            RicherChange x = Still.town();
            x.back(1);
            for (int k = 0; k < n; k++) {
                x.reading(0, 2, 1);
            }
            return x;
        };
    }

    // ---- promise 11

    private static void readingNumbers() {
        Due.sentence(11, "READINGS, 8 at most, numbered by how many there are");
        RicherChange x = withReadings(0).get();
        for (int k = 0; k < 8; k++) {
            Due.due("the number", x.reading(k % 3, k, (k + 1) % 3), k);
            Due.due("how many", x.many(3), k + 1);
        }
        x.back(3);
        for (int k = 5; k < 8; k++) {
            Due.due("the number, again", x.reading(0, 9, 0), k);
        }
        Due.due("one more", x.reading(0, 9, 0), FULL);
    }

    private static void readingOfAny() {
        Due.sentence(11, "the CHOICE of a HOUSE at a COST (itself: PAYING)");
        for (int a = 0; a < 3; a++) {
            for (int b = 0; b < 3; b++) {
                for (int cost = 0; cost <= 9; cost++) {
                    // Also what can't be: it is told, not judged.
                    Due.due("reading(" + a + ", " + cost + ", " + b + ")", Still.town().reading(a, cost, b), 1);
                }
            }
        }
    }

    private static void readingUnknown() {
        Due.sentence(11, "UNKNOWN: HOUSES");
        for (int h : Still.beyond(0, 2)) {
            Still.plain("reading(" + h + ", 0, 0)", x -> x.reading(h, 0, 0), UNKNOWN);
            Still.plain("reading(0, 0, " + h + ")", x -> x.reading(0, 0, h), UNKNOWN);
            Still.plain("reading(" + h + ", 0, " + h + ")", x -> x.reading(h, 0, h), UNKNOWN);
            // Ahead of OUTSIDE and of FULL.
            Still.plain(withReadings(8), "a ninth of " + h, x -> x.reading(h, 10, 0), UNKNOWN);
            Still.plain(withReadings(8), "a ninth at " + h, x -> x.reading(0, 10, h), UNKNOWN);
        }
    }

    private static void readingOutside() {
        Due.sentence(11, "OUTSIDE: cost (0 .. 9)");
        for (int cost : Still.beyond(0, 9)) {
            Still.plain("reading(0, " + cost + ", 1)", x -> x.reading(0, cost, 1), OUTSIDE);
            // Ahead of FULL.
            Still.plain(withReadings(8), "a ninth, cost " + cost, x -> x.reading(0, cost, 1), OUTSIDE);
        }
    }

    private static void readingFull() {
        Due.sentence(11, "FULL");
        Due.due("the eighth", withReadings(7).get().reading(0, 0, 0), 7);
        Still.plain(withReadings(8), "a ninth", x -> x.reading(0, 0, 0), FULL);
        Still.plain(withReadings(8), "a ninth, tenth", x -> x.reading(0, 9, 1) + 10 * x.reading(2, 0, 2), 11 * FULL);
        RicherChange x = withReadings(8).get();
        x.back(1);
        Due.due("the eighth again", x.reading(0, 0, 0), 7);
        Due.due("a ninth again", x.reading(0, 0, 0), FULL);
    }

    // ---- promise 12

    private static void backRange() {
        Due.sentence(12, "The last k READINGS (0 .. as many as there are) are taken back: how many are left.");
        for (int n = 0; n <= 8; n++) {
            for (int k = 0; k <= n; k++) {
                RicherChange x = withReadings(n).get();
                Due.due("back(" + k + ") of " + n, x.back(k), n - k);
                Due.due("READINGS", x.many(3), n - k);
            }
            int all = n;
            Still.plain(withReadings(n), "back(0) of " + n, x -> x.back(0), all);
        }
        // The last, not the first: the one that can't be was the second.
        RicherChange x = withReadings(1).get();
        x.reading(1, 0, 0);
        Due.due("both", x.lands(0), 0);
        x.back(1);
        Due.due("the first", x.lands(0) != 0 && x.lands(0) != ALL ? 1 : 0, 1);
    }

    private static void backWithoutACity() {
        Due.sentence(12, "0 .. as many as there are");
        Still.plain(RicherChange::new, "back(0)", x -> x.back(0), 0);
        Still.plain(RicherChange::new, "back(1)", x -> x.back(1), OUTSIDE);
        Still.plain(RicherChange::new, "back(-1)", x -> x.back(-1), OUTSIDE);
    }

    private static void backOutside() {
        Due.sentence(12, "OUTSIDE");
        for (int n = 0; n <= 8; n++) {
            for (int k : Still.beyond(0, n)) {
                Still.plain(withReadings(n), "back(" + k + ") of " + n, x -> x.back(k), OUTSIDE);
            }
        }
    }

    // ---- promises 13 to 15

    private static void setsWithoutReadings() {
        Due.sentence(13, "by which all READINGS are so");
        for (int h = 0; h < 3; h++) {
            int house = h;
            Still.plain(withReadings(0), "lands(" + h + ")", x -> x.lands(house), ALL);
            Still.plain(withReadings(0), "coins(" + h + ")", x -> x.coins(house), ALL);
            Still.plain(withReadings(0), "kinds(" + h + ")", x -> x.kinds(house), 7);
        }
    }

    /** One that can't be, at each place among eight, and none once it is taken back. */
    private static void setsOfAllReadings() {
        Due.sentence(13, "by which all READINGS are so");
        for (int place = 0; place < 8; place++) {
            RicherChange x = withReadings(0).get();
            for (int k = 0; k < 8; k++) {
                x.reading(0, 0, k == place ? 1 : 0);
            }
            Due.due("lands by " + place, x.lands(0), 0);
            Due.due("coins by " + place, x.coins(1), 0);
            Due.due("kinds by " + place, x.kinds(2), 0);
            x.back(7 - place);
            Due.due("still, by " + place, x.lands(0), 0);
            x.back(1);
            Due.due("lands without " + place, x.lands(0), ALL);
            Due.due("coins without " + place, x.coins(1), ALL);
            Due.due("kinds without " + place, x.kinds(2), 7);
        }
    }

    private static Supplier<RicherChange> read(String text, int a, int cost, int b) {
        return () -> {
            RicherChange x = Due.of(text);
            x.reading(a, cost, b);
            return x;
        };
    }

    private static void landsEdges() {
        Due.sentence(13, "LANDS of a HOUSE: 0 .. 9");
        // By LAND 0 alone it may point at 1, and does.
        Still.plain(read("q;h05;h19", 0, 1, 1), "the least alone", x -> x.lands(0), 1);
        Still.plain(read("q;h05;h19", 0, 1, 0), "all but the least", x -> x.lands(0), ALL - 1);
        // By LAND 9 alone it may be pointed at by 8.
        Still.plain(read("q;h80;h95", 0, 1, 1), "the most alone", x -> x.lands(1), 512);
        Still.plain(read("q;h80;h95", 0, 1, 0), "all but the most", x -> x.lands(1), ALL - 512);
        // What it has is none of it.
        Still.plain(read("q;h85;h19", 0, 1, 1), "the least, of 8", x -> x.lands(0), 1);
        Still.plain(read("q;h80;h05", 0, 1, 1), "the most, of none", x -> x.lands(1), 512);
    }

    private static void landsOfMoreThanNine() {
        Due.sentence(13, "LANDS of a HOUSE: 0 .. 9");
        Supplier<RicherChange> made = () -> {
            RicherChange x = Due.of("q;h90;h99");
            x.endow(1, 1, 18);
            x.reading(0, 1, 1);
            return x;
        };
        Still.plain(made, "it is so, but by 18", x -> x.choice(0, 1, 0), 1);
        Still.plain(made, "by none of 0 .. 9", x -> x.lands(1), 0);
        Still.plain(made, "of the other all that has any", x -> x.lands(0), ALL - 1);
    }

    private static void coinsEdges() {
        Due.sentence(14, "COINS of a HOUSE: 0 .. 9");
        // 1 and c at 2: by 0 the other pays, and 1 is kept; by more they change, and 1 is no more than c.
        Still.plain(read("q;h15;h20", 0, 1, 1), "the least alone", x -> x.coins(0), 1);
        Still.plain(read("q;h15;h20", 0, 1, 0), "all but the least", x -> x.coins(0), ALL - 1);
        // 10 at 2 and c: by 9 the other pays; by less they change, and 1 and c is no more than 9.
        Still.plain(read("q;h19;h20", 0, 1, 1), "the most alone", x -> x.coins(1), 512);
        Still.plain(read("q;h19;h20", 0, 1, 0), "all but the most", x -> x.coins(1), ALL - 512);
    }

    private static void coinsOfMoreThanNine() {
        Due.sentence(14, "COINS of a HOUSE: 0 .. 9");
        Supplier<RicherChange> made = () -> {
            RicherChange x = Due.of("q;h19;h20");
            x.endow(0, 2, 10);
            x.endow(1, 2, 18);
            x.reading(0, 1, 1);
            return x;
        };
        Still.plain(made, "it is so, but by 18", x -> x.choice(0, 1, 0), 1);
        Still.plain(made, "by none of 0 .. 9", x -> x.coins(1), 0);
        Still.plain(made, "of the other by all", x -> x.coins(0), ALL);
    }

    private static void kindsAllOrNone() {
        Due.sentence(15, "KINDS of a HOUSE: 0 .. 2");
        for (String kind : new String[] {"h", "k", "t"}) {
            for (int h = 0; h < 2; h++) {
                int house = h;
                String text = "q;" + kind + "12;" + kind + "43";
                Still.plain(read(text, 0, 2, 1), "it is so", x -> x.kinds(house), 7);
                Still.plain(read(text, 0, 2, 0), "it is not so", x -> x.kinds(house), 0);
            }
        }
    }

    private static void landsUnknown() {
        Due.sentence(13, "UNKNOWN");
        for (int h : Still.beyond(0, 2)) {
            Still.plain("lands(" + h + ")", x -> x.lands(h), UNKNOWN);
        }
        Due.due("the sixth of six", Due.of(SIX).lands(5), ALL);
        Due.due("a seventh of six", Due.of(SIX).lands(6), UNKNOWN);
    }

    private static void coinsUnknown() {
        Due.sentence(14, "UNKNOWN");
        for (int h : Still.beyond(0, 2)) {
            Still.plain("coins(" + h + ")", x -> x.coins(h), UNKNOWN);
        }
        Due.due("the sixth of six", Due.of(SIX).coins(5), ALL);
        Due.due("a seventh of six", Due.of(SIX).coins(6), UNKNOWN);
    }

    private static void kindsUnknown() {
        Due.sentence(15, "UNKNOWN");
        for (int h : Still.beyond(0, 2)) {
            Still.plain("kinds(" + h + ")", x -> x.kinds(h), UNKNOWN);
        }
        Due.due("the sixth of six", Due.of(SIX).kinds(5), 7);
        Due.due("a seventh of six", Due.of(SIX).kinds(6), UNKNOWN);
    }

    // ---- promise 16

    private static void odds(Supplier<RicherChange> made, int cost, long upper, long lower) {
        Still.plain(made, "odds(" + cost + ", 0)", x -> x.odds(cost, 0), upper);
        Still.plain(made, "odds(" + cost + ", 1)", x -> x.odds(cost, 1), lower);
    }

    private static long common(long a, long b) {
        return b == 0 ? a : common(b, a % b);
    }

    private static void oddsOfEachShare() {
        Due.sentence(16, "Shares are told as upper and lower number (above 0) in least terms.");
        for (int houses = 2; houses <= 6; houses++) {
            for (int fair = 1; fair <= houses; fair++) {
                // 0 is the richest: those with 1 point at it, those with 9 may point at nobody.
                String text = "q;h99" + ";h10".repeat(fair - 1) + ";h90".repeat(houses - fair);
                long common = common(fair, houses);
                odds(() -> Due.of(text), 1, fair / common, houses / common);
                // At no COST each pays for itself.
                odds(() -> Due.of(text), 0, 1, houses);
            }
        }
        odds(() -> Due.of("q;h99;h10;h90"), 9, 2, 3);
    }

    private static void oddsOfNone() {
        Due.sentence(16, "Shares are told as upper and lower number (above 0) in least terms.");
        for (int houses = 2; houses <= 6; houses++) {
            // The temple is the richest (20, 11), and has the other pay; the others have the most LAND.
            String text = "q;t05" + ";h92".repeat(houses - 1);
            odds(() -> Due.of(text), 1, 0, 1);
        }
    }

    private static void oddsLost() {
        Due.sentence(16, "LOST: STATE: there is no CITY; OUTSIDE");
        for (int cost : Still.beyond(0, 9)) {
            Still.plain("odds(" + cost + ", 0)", x -> x.odds(cost, 0), LOST);
            Still.plain("odds(" + cost + ", 1)", x -> x.odds(cost, 1), LOST);
            Still.plain(RicherChange::new, "no CITY: odds(" + cost + ", 0)", x -> x.odds(cost, 0), LOST);
        }
        for (int which : Still.beyond(0, 1)) {
            Still.plain("odds(0, " + which + ")", x -> x.odds(0, which), LOST);
            Still.plain("odds(9, " + which + ")", x -> x.odds(9, which), LOST);
            Still.plain(RicherChange::new, "no CITY: odds(0, " + which + ")", x -> x.odds(0, which), LOST);
        }
        Still.plain(RicherChange::new, "no CITY: odds(0, 1)", x -> x.odds(0, 1), LOST);
    }
}
