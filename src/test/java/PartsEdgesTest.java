import java.math.BigInteger;
import java.util.function.Supplier;
import java.util.function.ToLongFunction;

/** Boundary cases of promises 22 to 27, a method for each sentence. */
final class PartsEdgesTest {
    private static final int UNKNOWN = RicherChange.UNKNOWN, OUTSIDE = RicherChange.OUTSIDE;
    private static final String SIX = "q;h00;k19;t91;h99;k40;t04";

    public static void main(String[] args) {
        tellOfNoneAndTheMost();
        tellUnknown();
        sealOfEach();
        sealUnknown();
        asOfEach();
        asUnknown();
        asOutside();
        traceAtFirst();
        traceWraps();
        faultAtFirst();
        faultOfEachCall();
        faultStays();
        manyWithoutACity();
        manyOfTheMost();
        manyOutside();
        Due.end();
    }

    // ---- promise 22

    private static void tellOfNoneAndTheMost() {
        Due.sentence(22, "HOUSE (1): LAND. KIN (2): what HOUSE's gives, and 100. TEMPLE (3): ..");
        int[] noLand = {0, 100, 100};
        int[] mostLand = {18, 118, 136};
        int[] left = {1, 2 * 31 + 1, ((3 * 31 + 2) * 31 + 1) * 31 + 1};
        for (int h = 0; h < 3; h++) {
            RicherChange x = Due.of("q;h09;k09;t09");
            Due.due("of no LAND, " + h, x.tell(h), noLand[h]);
            Due.due("TRACE", x.trace(), left[h]);
            x.endow(h, 1, 18);
            Due.due("of the most LAND, " + h, x.tell(h), mostLand[h]);
        }
    }

    private static void tellUnknown() {
        Due.sentence(22, "UNKNOWN");
        for (int h : Still.beyond(0, 2)) {
            Still.plain("tell(" + h + ")", x -> x.tell(h), UNKNOWN);
        }
        Due.due("a seventh", Due.of(SIX).tell(6), UNKNOWN);
    }

    // ---- promise 23

    private static void sealOfEach() {
        Due.sentence(23, "SEALED by a lent body (4): its number; TEMPLES have their own (5): 90.");
        int[] want = {0, 1, 90, 3, 4, 90};
        for (int h = 0; h < 6; h++) {
            RicherChange x = Due.of(SIX);
            Due.due("seal(" + h + ")", x.seal(h), want[h]);
            Due.due("TRACE", x.trace(), want[h] == 90 ? 5 : 4);
        }
    }

    private static void sealUnknown() {
        Due.sentence(23, "UNKNOWN");
        for (int h : Still.beyond(0, 2)) {
            Still.plain("seal(" + h + ")", x -> x.seal(h), UNKNOWN);
        }
        Due.due("a seventh", Due.of(SIX).seal(6), UNKNOWN);
    }

    // ---- promise 24

    private static void asOfEach() {
        Due.sentence(24, "A HOUSE, taken as one of a kind: 1. .. CAST: it is none.");
        for (int h = 0; h < 3; h++) {
            for (int k = 0; k < 3; k++) {
                int house = h;
                int kind = k;
                String call = "as(" + h + ", " + k + ")";
                if (k <= h) {
                    Still.faultless(call, x -> x.as(house, kind), 1);
                } else {
                    Still.faulty(call, x -> x.as(house, kind), Due.CAST);
                }
            }
        }
    }

    private static void asUnknown() {
        Due.sentence(24, "UNKNOWN");
        for (int h : Still.beyond(0, 2)) {
            for (int k = -1; k <= 3; k++) {
                int kind = k;
                Still.faultless("as(" + h + ", " + k + ")", x -> x.as(h, kind), UNKNOWN);
            }
        }
    }

    private static void asOutside() {
        Due.sentence(24, "OUTSIDE");
        for (int h = 0; h < 3; h++) {
            int house = h;
            for (int kind : Still.beyond(0, 2)) {
                Still.faultless("as(" + h + ", " + kind + ")", x -> x.as(house, kind), OUTSIDE);
            }
        }
    }

    // ---- promise 25

    private static void traceAtFirst() {
        Due.sentence(25, "an int that wraps, 0 at first");
        Due.due("of a new object", new RicherChange().trace(), 0);
        RicherChange x = Due.of(SIX);
        Due.due("of a CITY", x.trace(), 0);
        Due.due("asked again", x.trace(), 0);
        // Only tell and seal have bodies.
        x.as(2, 1);
        x.name(0, 3);
        x.choice(0, 3, 1);
        Due.due("of calls without bodies", x.trace(), 0);
    }

    private static void traceWraps() {
        Due.sentence(25, "an int that wraps, .. becomes 31 times it and the number");
        RicherChange x = Due.of(SIX);
        BigInteger whole = BigInteger.ZERO;
        int below = 0;
        for (int k = 0; k < 100; k++) {
            x.tell(k % 3);
            for (int body : new int[][] {{1}, {2, 1}, {3, 2, 1, 1}}[k % 3]) {
                whole = whole.multiply(BigInteger.valueOf(31)).add(BigInteger.valueOf(body));
            }
            Due.due("TRACE of tell " + k, x.trace(), whole.intValue());
            x.seal(k % 3);
            whole = whole.multiply(BigInteger.valueOf(31)).add(BigInteger.valueOf(k % 3 == 2 ? 5 : 4));
            Due.due("TRACE of seal " + k, x.trace(), whole.intValue());
            below += x.trace() < 0 ? 1 : 0;
        }
        Due.due("it was below 0 and above", below > 0 && below < 100 ? 1 : 0, 1);
    }

    // ---- promise 26

    private static void faultAtFirst() {
        Due.sentence(26, "0 ahead of any");
        RicherChange x = new RicherChange();
        Due.due("at once", x.fault(), 0);
        x.lose(0);
        x.many(9);
        x.odds(0, 0);
        x.tell(0);
        Due.due("behind calls that name none", x.fault(), 0);
    }

    /** Each call that names FAULTS: one of its own, none when it is good, none when it is refused. */
    private static void faultOfEachCall() {
        each("city", x -> x.city(3, 0, 99, 0), Due.INDEX, x -> x.city(3, 0, 0, 13), x -> x.city(4, 0, 0, 13));
        each("city", x -> x.city(3, 0, 0, -1), Due.SIZE, x -> x.city(3, 0, 0, 12), x -> x.city(3, 3, 0, -1));
        each("year", x -> x.year(0, 0, 1, 7, 0, 0), Due.INDEX, x -> x.year(0, 0, 1, 0, 3, 0), x -> x.year(10, 0, 1, 7, 0, 0));
        each("year", x -> x.year(0, 2, 1, 7, 0, 0), Due.NULL, x -> x.year(0, 0, 1, 2, 1, 1), x -> x.year(0, 3, 0, 0, 1, 0));
        each("year", x -> x.year(0, 1, 1, 7, 0, 0), Due.CAST, x -> x.year(0, 0, 1, 6, 0, 1), x -> x.year(0, 4, 0, 0, 1, 0));
        each("sheet", x -> x.sheet(0, 0, -1), Due.SIZE, x -> x.sheet(0, 0, 0), x -> x.sheet(0, 0, 61));
        each("put", x -> x.put(2, 0, 0), Due.NULL, x -> x.put(0, 0, 0), x -> x.put(4, 0, 0));
        each("put", x -> x.put(0, 6, 0), Due.INDEX, x -> x.put(0, 5, 0), x -> x.put(-1, 6, 0));
        each("cell", x -> x.cell(0, 0, 0), Due.CAST, x -> x.cell(0, 0, 1), x -> x.cell(0, 0, 3));
        each("copy", x -> x.copy(0, 0, 1, 0, 0), Due.CAST, x -> x.copy(0, 0, 0, 1, 5), x -> x.copy(0, 0, 4, 0, 0));
        each("as", x -> x.as(0, 1), Due.CAST, x -> x.as(1, 1), x -> x.as(0, 3));
    }

    private static void each(String call, ToLongFunction<RicherChange> faulty, int fault,
            ToLongFunction<RicherChange> good, ToLongFunction<RicherChange> refused) {
        Due.sentence(26, "The FAULT of the latest call that names one: 0: it came to none, or was refused");
        RicherChange x = Still.town();
        faulty.applyAsLong(x);
        Due.due("fault() of " + call, x.fault(), fault);
        good.applyAsLong(x);
        Due.due("fault() of a good " + call, x.fault(), 0);
        x = Still.town();
        faulty.applyAsLong(x);
        faulty.applyAsLong(x);
        Due.due("fault() of " + call + " again", x.fault(), fault);
        refused.applyAsLong(x);
        Due.due("fault() of a refused " + call, x.fault(), 0);
    }

    private static void faultStays() {
        Due.sentence(26, "The FAULT of the latest call that names one");
        stays("ofHouse", x -> x.ofHouse(0, 0), x -> x.ofHouse(9, 0));
        stays("endow", x -> x.endow(0, 1, 1), x -> x.endow(0, 1, 19));
        stays("hide", x -> x.hide(0, 1), x -> x.hide(0, 2));
        stays("answer", x -> x.answer(0, 1, 0), x -> x.answer(1, 0, 0));
        stays("choice", x -> x.choice(0, 0, 0), x -> x.choice(0, 10, 0));
        stays("name", x -> x.name(0, 1), x -> x.name(0, 10));
        stays("safe", x -> x.safe(0, 1), x -> x.safe(3, 1));
        stays("reading", x -> x.reading(0, 1, 0), x -> x.reading(0, 10, 0));
        stays("back", x -> x.back(1), x -> x.back(2));
        stays("lands", x -> x.lands(0), x -> x.lands(3));
        stays("coins", x -> x.coins(0), x -> x.coins(3));
        stays("kinds", x -> x.kinds(0), x -> x.kinds(3));
        stays("odds", x -> x.odds(0, 0), x -> x.odds(0, 2));
        stays("lose", x -> x.lose(0), x -> x.lose(4));
        stays("tell", x -> x.tell(0), x -> x.tell(3));
        stays("seal", x -> x.seal(0), x -> x.seal(3));
        stays("trace", x -> x.trace(), x -> x.trace());
        stays("fault", x -> x.fault(), x -> x.fault());
        stays("many", x -> x.many(0), x -> x.many(4));
    }

    private static void stays(String call, ToLongFunction<RicherChange> good, ToLongFunction<RicherChange> refused) {
        RicherChange x = Still.town();
        Due.fault(x, "as", x.as(0, 1), Due.CAST);
        refused.applyAsLong(x);
        Due.due("fault() behind a refused " + call, x.fault(), Due.CAST);
        good.applyAsLong(x);
        Due.due("fault() behind a good " + call, x.fault(), Due.CAST);
    }

    // ---- promise 27

    private static void manyWithoutACity() {
        Due.sentence(27, "0 all without a CITY");
        Supplier<RicherChange> notTaken = () -> {
            RicherChange x = new RicherChange();
            Due.write(x, 0, 0, "q;h12");
            x.city(0, 0, 0, 5);
            x.reading(0, 0, 0);
            return x;
        };
        for (int w = 0; w < 4; w++) {
            int what = w;
            Still.plain(RicherChange::new, "many(" + w + ")", x -> x.many(what), 0);
            Still.plain(notTaken, "behind a TEXT that is none, many(" + w + ")", x -> x.many(what), 0);
        }
    }

    private static void manyOfTheMost() {
        Due.sentence(27, "How many: 0 HOUSES, 1 LAND of all, 2 COIN of all, 3 READINGS");
        RicherChange x = Due.of(SIX);
        int[] want = {6, 23, 23, 0};
        for (int what = 0; what < 4; what++) {
            Due.due("many(" + what + ")", x.many(what), want[what]);
        }
        for (int h = 0; h < 6; h++) {
            x.endow(h, 1, 18);
            x.endow(h, 2, 18);
        }
        for (int k = 0; k < 9; k++) {
            x.reading(0, 0, 0);
        }
        want = new int[] {6, 108, 108, 8};
        for (int what = 0; what < 4; what++) {
            Due.due("the most, many(" + what + ")", x.many(what), want[what]);
        }
        for (int h = 0; h < 6; h++) {
            x.hide(h, 18);
        }
        Due.due("all hidden, LAND", x.many(1), 0);
        Due.due("all hidden, COIN", x.many(2), 216);
        // Of an earlier CITY nothing is counted.
        Due.city(x, "q;h00;h01");
        want = new int[] {2, 0, 1, 0};
        for (int what = 0; what < 4; what++) {
            Due.due("of two, many(" + what + ")", x.many(what), want[what]);
        }
    }

    private static void manyOutside() {
        Due.sentence(27, "OUTSIDE");
        for (int what : Still.beyond(0, 3)) {
            Still.plain("many(" + what + ")", x -> x.many(what), OUTSIDE);
            Still.plain(RicherChange::new, "no CITY: many(" + what + ")", x -> x.many(what), OUTSIDE);
        }
    }
}
