/** Promises 22 to 27: tell, seal, as, trace, fault, many. */
final class PartsTest {
    private static final int UNKNOWN = RicherChange.UNKNOWN, OUTSIDE = RicherChange.OUTSIDE;

    public static void main(String[] args) {
        tell();
        seal();
        traceWraps();
        as();
        fault();
        many();
        Due.end();
    }

    private static int trace(int from, int... bodies) {
        int trace = from;
        for (int body : bodies) {
            trace = 31 * trace + body;
        }
        return trace;
    }

    private static void tell() {
        RicherChange x = Due.of("q;h12;k34;t56");
        Due.due("a house", x.tell(0), 1);
        int trace = trace(0, 1);
        Due.due("trace", x.trace(), trace);
        Due.due("a kin", x.tell(1), 103);
        trace = trace(trace, 2, 1);
        Due.due("trace", x.trace(), trace);
        Due.due("a temple", x.tell(2), 110);
        trace = trace(trace, 3, 2, 1, 1);
        Due.due("trace", x.trace(), trace);
        Due.due("house -1", x.tell(-1), UNKNOWN);
        Due.due("house 3", x.tell(3), UNKNOWN);
        Due.due("trace stays", x.trace(), trace);
        x.endow(2, 1, 18);
        Due.due("by the land of now", x.tell(2), 136);
    }

    private static void seal() {
        RicherChange x = Due.of("q;h12;k34;t56;h78");
        Due.due("house 0", x.seal(0), 0);
        Due.due("trace", x.trace(), 4);
        Due.due("kin 1", x.seal(1), 1);
        Due.due("trace", x.trace(), trace(0, 4, 4));
        Due.due("temple 2", x.seal(2), 90);
        Due.due("trace", x.trace(), trace(0, 4, 4, 5));
        Due.due("house 3", x.seal(3), 3);
        Due.due("trace", x.trace(), trace(0, 4, 4, 5, 4));
        Due.due("house -1", x.seal(-1), UNKNOWN);
        Due.due("house 4", x.seal(4), UNKNOWN);
        Due.due("trace stays", x.trace(), trace(0, 4, 4, 5, 4));
        Due.due("no city", new RicherChange().seal(0), UNKNOWN);
    }

    private static void traceWraps() {
        RicherChange x = Due.of("q;h12;t34");
        int trace = 0;
        for (int k = 0; k < 20; k++) {
            x.tell(1);
            trace = trace(trace, 3, 2, 1, 1);
            Due.due("trace " + k, x.trace(), trace);
        }
    }

    private static void as() {
        RicherChange x = Due.of("q;h12;k34;t56");
        for (int h = 0; h < 3; h++) {
            for (int kind = 0; kind < 3; kind++) {
                String call = "as(" + h + ", " + kind + ")";
                if (kind <= h) {
                    Due.due(call, x.as(h, kind), 1);
                    Due.due("fault() after " + call, x.fault(), 0);
                } else {
                    Due.fault(x, call, x.as(h, kind), Due.CAST);
                }
            }
        }
        Due.fault(x, "a house as a temple", x.as(0, 2), Due.CAST);
        Due.due("kind -1", x.as(0, -1), OUTSIDE);
        Due.due("fault()", x.fault(), 0);
        Due.due("kind 3", x.as(2, 3), OUTSIDE);
        Due.due("kind 9", x.as(0, 9), OUTSIDE);
        Due.due("house -1", x.as(-1, 3), UNKNOWN);
        Due.due("house 3", x.as(3, -1), UNKNOWN);
    }

    /** Only calls that name FAULTS change what fault() tells. */
    private static void fault() {
        RicherChange x = Due.of("q;h12;k34");
        Due.fault(x, "as", x.as(0, 2), Due.CAST);
        x.ofHouse(9, 9);
        x.endow(9, 9, 9);
        x.endow(0, 1, 1);
        x.hide(0, 0);
        x.answer(0, 1, 10);
        x.choice(0, 0, 0);
        x.name(0, 0);
        x.safe(0, 0);
        x.reading(0, 0, 0);
        x.back(1);
        x.lands(0);
        x.coins(0);
        x.kinds(0);
        x.odds(0, 0);
        x.odds(10, 0);
        x.lose(0);
        x.lose(4);
        x.tell(0);
        x.seal(0);
        x.trace();
        x.many(0);
        x.many(9);
        Due.due("fault() is left as it was", x.fault(), Due.CAST);
        Due.due("fault() asked again", x.fault(), Due.CAST);
        long[] good = {x.sheet(0, 0, 2), clear(x), x.put(0, 0, 0), clear(x), x.cell(0, 0, 0), clear(x),
            x.copy(0, 0, 0, 0, 1), clear(x), x.as(0, 0), clear(x), x.year(0, 0, 0, 0, 1, 0), clear(x),
            x.city(0, 0, 0, 1), clear(x)};
        for (int k = 1; k < good.length; k += 2) {
            Due.due("fault() after a good call", good[k], 0);
        }
        long[] refused = {x.sheet(4, 0, 2), clear(x), x.put(4, 0, 0), clear(x), x.cell(4, 0, 0), clear(x),
            x.copy(4, 0, 0, 0, 1), clear(x), x.as(4, 0), clear(x), x.year(0, 4, 0, 0, 1, 0), clear(x),
            x.city(4, 0, 0, 1), clear(x)};
        for (int k = 1; k < refused.length; k += 2) {
            Due.due("fault() after a refused call", refused[k], 0);
        }
    }

    /** What fault() tells, with a FAULT left behind for the next call to clear. */
    private static long clear(RicherChange x) {
        long told = x.fault();
        x.as(0, 2);
        return told;
    }

    private static void many() {
        RicherChange x = Due.of("q;h12;k34;t56");
        x.reading(0, 0, 0);
        x.reading(0, 0, 0);
        int[] want = {3, 9, 12, 2};
        for (int what = 0; what < 4; what++) {
            Due.due("many(" + what + ")", x.many(what), want[what]);
        }
        Due.due("many(-1)", x.many(-1), OUTSIDE);
        Due.due("many(4)", x.many(4), OUTSIDE);
        Due.due("many(4) without a city", new RicherChange().many(4), OUTSIDE);
        x.hide(2, 5);
        Due.due("land", x.many(1), 4);
        Due.due("coin", x.many(2), 17);
    }
}
