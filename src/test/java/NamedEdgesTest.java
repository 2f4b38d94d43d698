import java.util.function.Supplier;

/** Boundary cases of promises 6 and 7, a method for each sentence. */
final class NamedEdgesTest {
    private static final int UNKNOWN = RicherChange.UNKNOWN, OUTSIDE = RicherChange.OUTSIDE,
        STATE = RicherChange.STATE;

    public static void main(String[] args) {
        answerAtEachCost();
        answerOfAsMuchIsToPay();
        answerPaidIsNoughtAtLeast();
        answerUnknown();
        answerOfOneWithItself();
        answerState();
        answerOutside();
        choiceAtEachCost();
        choicePayingAhead();
        choiceLeastHouse();
        choiceMoreLandAlone();
        choiceOfTheMostLand();
        choiceFairLeastHouse();
        choiceUnknown();
        choiceCost();
        choiceWhat();
        Due.end();
    }

    // ---- promise 6

    private static void answerAtEachCost() {
        Due.sentence(6, "at a COST (0 .. 9): 1 it CHANGES, 0 it PAYS");
        for (int c = 0; c <= 9; c++) {
            int cost = c;
            // 3 for 7 less the cost, whatever the kind.
            Still.plain("answer(0, 1, " + c + ")", x -> x.answer(0, 1, cost), c > 4 ? 1 : 0);
            Still.plain("answer(0, 2, " + c + ")", x -> x.answer(0, 2, cost), c > 4 ? 1 : 0);
            // 7 for 7 less the cost.
            Still.plain("answer(1, 2, " + c + ")", x -> x.answer(1, 2, cost), c > 0 ? 1 : 0);
        }
    }

    private static void answerOfAsMuchIsToPay() {
        Due.sentence(6, "it CHANGES, if its WORTH by what that other one has is more");
        for (String kind : new String[] {"h", "k", "t"}) {
            for (int cost = 0; cost <= 9; cost++) {
                // The other one has 1 and as much as is left of 9 and 1 behind the cost; one less; one more.
                int left = 10 - cost;
                RicherChange x = Due.of("q;h10;" + kind + "91;h10;h10");
                x.endow(0, 2, left - 1);
                Due.due("as much, cost " + cost, x.answer(0, 1, cost), 0);
                x.endow(2, 2, left);
                Due.due("one more, cost " + cost, x.answer(2, 1, cost), 1);
                x.endow(3, 1, 0);
                x.endow(3, 2, left - 1);
                Due.due("one less, cost " + cost, x.answer(3, 1, cost), 0);
            }
        }
    }

    private static void answerPaidIsNoughtAtLeast() {
        Due.sentence(6, "LAND by the rest (0 at least)");
        for (String kind : new String[] {"h", "k", "t"}) {
            RicherChange x = Due.of("q;h00;" + kind + "10;h01");
            for (int cost = 1; cost <= 9; cost++) {
                Due.due("nothing for nothing, cost " + cost, x.answer(0, 1, cost), 0);
                Due.due("one for nothing, cost " + cost, x.answer(2, 1, cost), 1);
            }
            Due.due("nothing for one", x.answer(0, 1, 0), 0);
            Due.due("one for one", x.answer(2, 1, 0), 0);
        }
    }

    private static void answerUnknown() {
        Due.sentence(6, "UNKNOWN: HOUSES");
        for (int h : Still.beyond(0, 2)) {
            Still.plain("answer(" + h + ", 1, 0)", x -> x.answer(h, 1, 0), UNKNOWN);
            Still.plain("answer(0, " + h + ", 0)", x -> x.answer(0, h, 0), UNKNOWN);
            Still.plain("answer(" + h + ", " + h + ", 10)", x -> x.answer(h, h, 10), UNKNOWN);
            // Ahead of STATE and of OUTSIDE.
            Still.plain("answer(2, " + h + ", 10)", x -> x.answer(2, h, 10), UNKNOWN);
            Still.plain("answer(" + h + ", 0, -1)", x -> x.answer(h, 0, -1), UNKNOWN);
        }
    }

    private static void answerOfOneWithItself() {
        Due.sentence(6, "UNKNOWN: .. one with itself");
        for (int h = 0; h < 3; h++) {
            int house = h;
            Still.plain("answer(" + h + ", " + h + ", 0)", x -> x.answer(house, house, 0), UNKNOWN);
            Still.plain("answer(" + h + ", " + h + ", 10)", x -> x.answer(house, house, 10), UNKNOWN);
        }
    }

    private static void answerState() {
        Due.sentence(6, "STATE: a may not POINT at b");
        Supplier<RicherChange> made = () -> Due.of("q;h50;h50;h49;h60");
        Still.plain(made, "as much LAND: answer(0, 1, 0)", x -> x.answer(0, 1, 0), STATE);
        Still.plain(made, "as much LAND: answer(1, 0, 0)", x -> x.answer(1, 0, 0), STATE);
        Still.plain(made, "one less: answer(0, 2, 0)", x -> x.answer(0, 2, 0), STATE);
        Still.plain(made, "one more: answer(0, 3, 0)", x -> x.answer(0, 3, 0), 0);
        Still.plain(made, "answer(2, 0, 0)", x -> x.answer(2, 0, 0), 1);
        // Ahead of OUTSIDE.
        Still.plain(made, "answer(0, 1, 10)", x -> x.answer(0, 1, 10), STATE);
        Still.plain(made, "answer(3, 0, -1)", x -> x.answer(3, 0, -1), STATE);
    }

    private static void answerOutside() {
        Due.sentence(6, "OUTSIDE: cost");
        for (int cost : Still.beyond(0, 9)) {
            Still.plain("answer(0, 1, " + cost + ")", x -> x.answer(0, 1, cost), OUTSIDE);
        }
    }

    // ---- promise 7

    private static void of(RicherChange x, int h, int cost, int... want) {
        for (int what = 0; what < want.length; what++) {
            Due.due("choice(" + h + ", " + cost + ", " + what + ")", x.choice(h, cost, what), want[what]);
        }
    }

    private static void choiceAtEachCost() {
        Due.sentence(7, "CHOICE of a HOUSE at a COST (0 .. 9)");
        // 0 (3 in all) at 1 (7): by 1 .. 4 the other pays; by 5, 6 they change, and 2, 1 are left, for none by paying.
        for (int cost = 0; cost <= 9; cost++) {
            RicherChange x = Due.of("q;h12;h43");
            boolean points = cost > 0 && cost < 7;
            boolean changes = cost > 4;
            int end = !points ? Math.max(0, 3 - cost) : changes ? 7 - cost : 3;
            int payer = points && !changes ? 1 : 0;
            of(x, 0, cost, points ? 1 : 0, end, payer, payer);
            of(x, 1, cost, 1, Math.max(0, 7 - cost), 1, 1);
        }
    }

    private static void choicePayingAhead() {
        Due.sentence(7, "of several PAYING ahead of POINTING");
        // At no cost all is as it was, by whatever it does.
        of(Due.of("q;h90;h10;h95"), 1, 0, 1, 1, 1, 0);
        of(Due.of("q;t90;t10;t95"), 1, 0, 1, 12, 1, 0);
        // Nobody has anything left.
        of(Due.of("q;h40;h30;h20"), 2, 9, 2, 0, 2, 0);
        of(Due.of("q;k40;k30;k20"), 2, 9, 2, 5, 2, 0);
        of(Due.of("q;h00;h90"), 0, 9, 0, 0, 0, 0);
        // They change 5 for 5: as much is left.
        of(Due.of("q;h50;h23"), 1, 1, 1, 4, 1, 0);
        // One more is left.
        of(Due.of("q;h51;h23"), 1, 2, 0, 4, 1, 0);
    }

    private static void choiceLeastHouse() {
        Due.sentence(7, "then the least HOUSE");
        of(Due.of("q;h90;h10;h90;h90"), 1, 3, 0, 1, 0, 1);
        of(Due.of("q;h10;h90;h90;h90"), 0, 3, 1, 1, 1, 1);
        of(Due.of("q;h90;h90;h90;h90;h90;h10"), 5, 3, 0, 1, 0, 1);
        // Both would pay, which leaves it 4.
        of(Due.of("q;h40;h70;h80"), 0, 3, 1, 4, 1, 0);
        // Both would change, which leaves it more by the later one.
        of(Due.of("q;h40;h60;h80"), 0, 5, 2, 3, 0, 0);
        of(Due.of("q;h40;h80;h80;h60"), 0, 5, 1, 3, 0, 0);
        // All would change and leave it as much, whatever LAND is among it.
        of(Due.of("q;h40;h54;h63;h90"), 0, 6, 1, 3, 0, 0);
    }

    private static void choiceMoreLandAlone() {
        Due.sentence(7, "One may POINT only at a HOUSE that has more LAND.");
        of(Due.of("q;h19;h19;h09"), 0, 5, 0, 5, 0, 1);
        of(Due.of("q;h10;h19"), 0, 5, 0, 0, 0, 0);
        of(Due.of("q;h10;h29"), 0, 5, 1, 1, 1, 1);
        of(Due.of("q;h00;h09"), 0, 5, 0, 0, 0, 0);
    }

    private static void choiceOfTheMostLand() {
        Due.sentence(7, "itself: it PAYS");
        RicherChange x = Due.of("q;h12;h34");
        x.endow(1, 1, 18);
        x.endow(1, 2, 18);
        of(x, 1, 9, 1, 27, 1, 1);
        of(x, 0, 9, 1, 3, 1, 1);
        x.endow(0, 1, 18);
        of(x, 0, 9, 0, 11, 0, 0);
    }

    private static void choiceFairLeastHouse() {
        Due.sentence(7, "of several the least HOUSE is that");
        RicherChange x = Due.of("q;h54;h09;h90;k04");
        for (int h = 0; h < 4; h++) {
            Due.due("all as rich at no COST, named " + h, x.choice(h, 0, 3), h == 0 ? 1 : 0);
        }
        x = Due.of("q;h08;t00;k05");
        for (int h = 0; h < 3; h++) {
            Due.due("by WORTH, named " + h, x.choice(h, 1, 3), h == 1 ? 1 : 0);
        }
        x = Due.of("q;h00;h00");
        Due.due("of those who have nothing", x.choice(0, 9, 3) * 10 + x.choice(1, 9, 3), 10);
    }

    private static void choiceUnknown() {
        Due.sentence(7, "UNKNOWN");
        for (int h : Still.beyond(0, 2)) {
            Still.plain("choice(" + h + ", 0, 0)", x -> x.choice(h, 0, 0), UNKNOWN);
            Still.plain("choice(" + h + ", 10, 4)", x -> x.choice(h, 10, 4), UNKNOWN);
        }
    }

    private static void choiceCost() {
        Due.sentence(7, "OUTSIDE");
        for (int cost : Still.beyond(0, 9)) {
            for (int w = 0; w < 4; w++) {
                int what = w;
                Still.plain("choice(0, " + cost + ", " + w + ")", x -> x.choice(0, cost, what), OUTSIDE);
            }
        }
    }

    private static void choiceWhat() {
        Due.sentence(7, "OUTSIDE");
        for (int what : Still.beyond(0, 3)) {
            Still.plain("choice(0, 0, " + what + ")", x -> x.choice(0, 0, what), OUTSIDE);
            Still.plain("choice(0, 9, " + what + ")", x -> x.choice(0, 9, what), OUTSIDE);
        }
        int[] want = {1, 3, 1, 0};
        for (int w = 0; w < 4; w++) {
            int what = w;
            Still.plain("choice(0, 2, " + w + ")", x -> x.choice(0, 2, what), want[w]);
        }
    }
}
