/** Promises 6, 7: answer, choice. */
final class NamedTest {
    private static final int UNKNOWN = RicherChange.UNKNOWN, OUTSIDE = RicherChange.OUTSIDE,
        STATE = RicherChange.STATE;

    public static void main(String[] args) {
        answer();
        wrongAnswer();
        choice();
        ties();
        fairIsTheLeastOfTheRichest();
        wrongChoice();
        Due.end();
    }

    private static void answer() {
        // 1 has 4 in all, 0 has 3: paying 1 leaves as much as the change gives, so it pays.
        RicherChange x = Due.of("q;h12;h40;t63;k72");
        Due.due("as much", x.answer(0, 1, 1), 0);
        Due.due("more", x.answer(0, 1, 2), 1);
        Due.due("temple, 9 less 6 is as much", x.answer(0, 2, 6), 0);
        Due.due("temple, 9 less 7", x.answer(0, 2, 7), 1);
        Due.due("kin, 9 less 5", x.answer(1, 3, 5), 0);
        Due.due("kin, 9 less 6", x.answer(1, 3, 6), 1);
        Due.due("at no cost", x.answer(0, 1, 0), 0);
        // Nobody has less than nothing: a poor house that is rich in land only.
        x = Due.of("q;h00;h10;h19");
        Due.due("nothing for nothing", x.answer(0, 1, 9), 0);
        Due.due("no one may point at as much land", x.answer(1, 2, 0), STATE);
        // One with hidden coin makes even a cheap change worth it.
        x = Due.of("q;h19;h20");
        Due.due("hidden coin", x.answer(0, 1, 0), 1);
    }

    private static void wrongAnswer() {
        RicherChange x = Due.of("q;h12;h40;h19");
        Due.due("itself", x.answer(1, 1, 10), UNKNOWN);
        Due.due("a -1", x.answer(-1, 1, 10), UNKNOWN);
        Due.due("a 3", x.answer(3, 1, 1), UNKNOWN);
        Due.due("b -1", x.answer(1, -1, 1), UNKNOWN);
        Due.due("b 3", x.answer(1, 3, 1), UNKNOWN);
        Due.due("less land", x.answer(1, 0, 10), STATE);
        Due.due("as much land", x.answer(0, 2, -1), STATE);
        Due.due("cost -1", x.answer(0, 1, -1), OUTSIDE);
        Due.due("cost 10", x.answer(0, 1, 10), OUTSIDE);
        Due.due("cost 9", x.answer(0, 1, 9), 1);
    }

    private static void of(RicherChange x, int h, int cost, int... want) {
        for (int what = 0; what < 4; what++) {
            Due.due("choice(" + h + ", " + cost + ", " + what + ")", x.choice(h, cost, what), want[what]);
        }
    }

    private static void choice() {
        RicherChange x = Due.of("q;h12;h40;t63;k72");
        // Who is pointed at and pays leaves the named one as it was.
        of(x, 0, 1, 1, 3, 1, 0);
        of(x, 0, 0, 0, 3, 0, 0);
        // 1 would change (4 for 3, less 2); the temple pays, for it is the first that leaves all.
        of(x, 0, 2, 2, 3, 2, 1);
        // At 9 all would change: 0 gets at most 9 less 9, as by paying.
        of(x, 0, 9, 0, 0, 0, 0);
        // The temple (28) may point at 3 alone, which pays at 0 only if it keeps as much.
        of(x, 2, 1, 2, 26, 2, 1);
        of(x, 3, 4, 3, 10, 3, 0);
        // Hidden coin: 1 changes gladly, and 0 has lost by it.
        x = Due.of("q;k19;h20");
        of(x, 0, 1, 0, 14, 0, 1);
        // The richest (10 to 9) changes at a high cost; the kin has more by it than by paying out of 4.
        x = Due.of("q;k13;h91");
        of(x, 0, 8, 1, 7, 0, 0);
        of(x, 1, 8, 1, 2, 1, 1);
    }

    private static void ties() {
        // Both are pointed at to the same end: the least house.
        RicherChange x = Due.of("q;h55;h10;h55");
        of(x, 1, 1, 0, 1, 0, 1);
        // Paying nothing is as good as pointing.
        of(x, 1, 0, 1, 1, 1, 0);
        // 2 is as rich as 1 and may not be pointed at by it.
        of(x, 0, 3, 0, 7, 0, 1);
        x = Due.of("q;h10;h20;h30");
        of(x, 0, 9, 0, 0, 0, 0);
    }

    private static void fairIsTheLeastOfTheRichest() {
        RicherChange x = Due.of("q;h05;h05;h04");
        Due.due("the least of the richest", x.choice(0, 3, 3), 1);
        Due.due("the other one", x.choice(1, 3, 3), 0);
        Due.due("a poorer one", x.choice(2, 3, 3), 0);
        // By worth, not by what one has: a temple with nothing has 10.
        x = Due.of("q;h09;t00");
        Due.due("the house", x.choice(0, 1, 3), 0);
        Due.due("the temple", x.choice(1, 1, 3), 1);
    }

    private static void wrongChoice() {
        RicherChange x = Due.of("q;h12;h40");
        Due.due("house -1", x.choice(-1, 10, 0), UNKNOWN);
        Due.due("house 2", x.choice(2, 0, 4), UNKNOWN);
        Due.due("cost -1", x.choice(0, -1, 0), OUTSIDE);
        Due.due("cost 10", x.choice(0, 10, 0), OUTSIDE);
        Due.due("what -1", x.choice(0, 0, -1), OUTSIDE);
        Due.due("what 4", x.choice(0, 0, 4), OUTSIDE);
        Due.due("nothing is changed", x.many(1) * 100 + x.many(2), 502);
    }
}
