import java.util.function.Supplier;
import java.util.function.ToLongFunction;

/** Calls that change nothing: each on an object of its own, all of which is looked at ahead of it and behind it. */
final class Still {
    private static final int[] FAR = {Integer.MIN_VALUE, Integer.MIN_VALUE + 1, Integer.MAX_VALUE - 1, Integer.MAX_VALUE};

    private Still() {
    }

    /** A city of three (on sheet 3, bytes), pairs (0, shorts), a row of ints (1), nothing (2), a READING, a TRACE. */
    static RicherChange town() {
        RicherChange x = Due.of("q;h12;k43;t61");
        Due.row(x, 0, 1, 0, 1, 0, 2, 1, 1);
        Due.row(x, 1, 2, 7, 8, 9);
        x.reading(0, 2, 1);
        x.tell(2);
        return x;
    }

    /** Numbers just beyond a range, and far from it. */
    static int[] beyond(int least, int most) {
        int[] all = new int[FAR.length + 2];
        System.arraycopy(FAR, 0, all, 2, FAR.length);
        all[0] = least - 1;
        all[1] = most + 1;
        return all;
    }

    /** Of a call that names no FAULTS: what fault() tells stays too. */
    static void plain(String call, ToLongFunction<RicherChange> asked, long want) {
        plain(Still::town, call, asked, want);
    }

    static void plain(Supplier<RicherChange> made, String call, ToLongFunction<RicherChange> asked, long want) {
        look(made, call, asked, want, Due.SIZE, Due.SIZE);
    }

    /** Of a call that names FAULTS and comes to none, or is refused. */
    static void faultless(String call, ToLongFunction<RicherChange> asked, long want) {
        faultless(Still::town, call, asked, want);
    }

    static void faultless(Supplier<RicherChange> made, String call, ToLongFunction<RicherChange> asked, long want) {
        look(made, call, asked, want, Due.SIZE, 0);
    }

    static void faulty(String call, ToLongFunction<RicherChange> asked, int fault) {
        faulty(Still::town, call, asked, fault);
    }

    static void faulty(Supplier<RicherChange> made, String call, ToLongFunction<RicherChange> asked, int fault) {
        look(made, call, asked, -10 - fault, other(fault), fault);
    }

    /** A FAULT where a long is answered. */
    static void lost(Supplier<RicherChange> made, String call, ToLongFunction<RicherChange> asked, int fault) {
        look(made, call, asked, RicherChange.LOST, other(fault), fault);
    }

    private static int other(int fault) {
        return fault == Due.SIZE ? Due.NULL : Due.SIZE;
    }

    private static void look(Supplier<RicherChange> made, String call, ToLongFunction<RicherChange> asked, long want,
            int faultBefore, int faultThen) {
        Due.due(call + " without a look ahead of it", asked.applyAsLong(made.get()), want);
        RicherChange x = made.get();
        String before = all(x);
        leaveFault(x, faultBefore);
        Due.due(call, asked.applyAsLong(x), want);
        Due.due("fault() behind " + call, x.fault(), faultThen);
        String then = all(x);
        Due.due(call + " leaves " + before + " as " + then, then.equals(before) ? 0 : 1, 0);
    }

    /** SIZE comes of any object; NULL needs a SHEET that has nothing, as 2 has in all that is made here. */
    private static void leaveFault(RicherChange x, int fault) {
        Due.due("a FAULT is left behind", fault == Due.SIZE ? x.sheet(0, 0, -1) : x.put(2, 0, 0), -10 - fault);
    }

    /** All that calls can see but fault(), by calls that only look. */
    static String all(RicherChange x) {
        StringBuilder seen = new StringBuilder("trace " + x.trace());
        for (int what = 0; what < 4; what++) {
            seen.append(' ').append(x.many(what));
        }
        for (int h = 0; h < x.many(0); h++) {
            seen.append(" house");
            for (int what = 0; what < 3; what++) {
                seen.append(' ').append(x.ofHouse(h, what));
            }
            seen.append(' ').append(x.lands(h)).append(' ').append(x.coins(h)).append(' ').append(x.kinds(h));
        }
        for (int k = 0; k < 4; k++) {
            seen.append(" sheet").append(row(x, k));
        }
        return seen.toString();
    }

    private static String row(RicherChange x, int k) {
        StringBuilder seen = new StringBuilder();
        for (int lane = 0; lane < 3; lane++) {
            long cell = x.cell(k, 0, lane);
            if (x.fault() == Due.NULL) {
                return " nothing";
            }
            if (x.fault() != Due.CAST) {
                seen.append(" lane ").append(lane);
                for (int i = 1; cell != RicherChange.LOST; i++) {
                    seen.append(' ').append(cell);
                    cell = x.cell(k, i, lane);
                }
            }
        }
        return seen.toString();
    }
}
