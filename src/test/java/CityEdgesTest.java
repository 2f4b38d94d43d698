import java.util.function.Supplier;

/** Boundary cases of promises 1 to 5, a method for each sentence. */
final class CityEdgesTest {
    private static final int UNKNOWN = RicherChange.UNKNOWN, OUTSIDE = RicherChange.OUTSIDE,
        STATE = RicherChange.STATE;
    private static final String SIX = "q;h00;k19;t91;h99;k40;t04";
    private static final int LEAST = Integer.MIN_VALUE, MOST = Integer.MAX_VALUE;

    public static void main(String[] args) {
        newObject();
        cityOfTwoToSix();
        cityOfACode();
        cityEndsTooSoon();
        citySeventhHouse();
        cityFirstOfSeveral();
        cityTextAtTheEdgesOfARow();
        cityMakesAllAnew();
        cityNotTakenChangesNothing();
        cityUnknown();
        cityLane();
        cityCast();
        cityNull();
        citySize();
        cityIndex();
        cityIndexOfNoCells();
        worth();
        ofHouseUnknown();
        ofHouseOutside();
        endowRange();
        endowUnknown();
        endowOutside();
        hideRange();
        hideUnknown();
        hideOutside();
        Due.end();
    }

    // ---- promise 1

    private static void newObject() {
        Due.sentence(1, "No CITY (no HOUSES), SHEETS have nothing.");
        Supplier<RicherChange> made = RicherChange::new;
        Still.faulty(made, "city(0, 0, 0, 0)", x -> x.city(0, 0, 0, 0), Due.NULL);
        Still.plain(made, "ofHouse(0, 0)", x -> x.ofHouse(0, 0), UNKNOWN);
        Still.plain(made, "endow(0, 1, 0)", x -> x.endow(0, 1, 0), UNKNOWN);
        Still.plain(made, "hide(0, 0)", x -> x.hide(0, 0), UNKNOWN);
        Still.plain(made, "answer(0, 1, 0)", x -> x.answer(0, 1, 0), UNKNOWN);
        Still.plain(made, "choice(0, 0, 0)", x -> x.choice(0, 0, 0), UNKNOWN);
        Still.faultless(made, "year(0, 0, 0, 0, 0, 0)", x -> x.year(0, 0, 0, 0, 0, 0), STATE);
        Still.plain(made, "name(0, 0)", x -> x.name(0, 0), UNKNOWN);
        Still.plain(made, "safe(0, 0)", x -> x.safe(0, 0), UNKNOWN);
        Still.plain(made, "reading(0, 0, 0)", x -> x.reading(0, 0, 0), UNKNOWN);
        Still.plain(made, "back(0)", x -> x.back(0), 0);
        Still.plain(made, "lands(0)", x -> x.lands(0), UNKNOWN);
        Still.plain(made, "coins(0)", x -> x.coins(0), UNKNOWN);
        Still.plain(made, "kinds(0)", x -> x.kinds(0), UNKNOWN);
        Still.plain(made, "odds(0, 0)", x -> x.odds(0, 0), RicherChange.LOST);
        Still.plain(made, "tell(0)", x -> x.tell(0), UNKNOWN);
        Still.plain(made, "seal(0)", x -> x.seal(0), UNKNOWN);
        Still.faultless(made, "as(0, 0)", x -> x.as(0, 0), UNKNOWN);
        for (int n = 0; n < 4; n++) {
            int k = n;
            Still.plain(made, "lose(" + k + ")", x -> x.lose(k), 0);
            Still.faulty(made, "put(" + k + ", 0, 0)", x -> x.put(k, 0, 0), Due.NULL);
            Still.lost(made, "cell(" + k + ", 0, 0)", x -> x.cell(k, 0, 0), Due.NULL);
            Still.faulty(made, "copy(" + k + ", 0, 0, 0, 0)", x -> x.copy(k, 0, 0, 0, 0), Due.NULL);
            Still.plain(made, "many(" + k + ")", x -> x.many(k), 0);
        }
        Due.due("trace()", new RicherChange().trace(), 0);
        Due.due("fault()", new RicherChange().fault(), 0);
    }

    // ---- promise 2

    private static void taken(String text, long want) {
        for (int lane = 0; lane < 3; lane++) {
            RicherChange x = new RicherChange();
            Due.write(x, 1, lane, text);
            Due.due("city of " + text + " by lane " + lane, x.city(1, lane, 0, text.length()), want);
            Due.due("fault() behind " + text, x.fault(), 0);
            Due.due("houses by " + text, x.many(0), Math.max(0, want));
        }
    }

    private static String houses(int n) {
        return "q" + ";k57".repeat(n);
    }

    private static void cityOfTwoToSix() {
        Due.sentence(2, "q, then 2 to 6 HOUSES");
        taken(houses(0), -101);
        taken(houses(1), -105);
        for (int n = 2; n <= 6; n++) {
            taken(houses(n), n);
        }
        taken(houses(7), -125);
    }

    /** Each place of the longest TEXT with each code of a byte, and of some of more. */
    private static void cityOfACode() {
        Due.sentence(2, "the first code with which no TEXT goes on");
        String[] due = {"q", ";", "hkt", "0123456789", "0123456789"};
        int[] wide = {-65536 + 'q', 256 + 'q', 256 + ';', 256 + 'h', 256 + '0', 65536 + 'q', 65536 + ';', 65536 + 't',
            65536 + '9', LEAST + 'k', LEAST, MOST};
        for (int place = 0; place < SIX.length(); place++) {
            String goesOn = due[place == 0 ? 0 : 1 + (place - 1) % 4];
            for (int code = -128; code < 128; code++) {
                boolean isOne = code >= 0 && goesOn.indexOf(code) >= 0;
                for (int lane = 0; lane < 3; lane++) {
                    code(place, code, lane, isOne ? 6 : -100 - place);
                }
            }
            for (int code : wide) {
                boolean isOneCut = goesOn.indexOf((byte) code) >= 0 && (byte) code >= 0;
                boolean isOneShort = goesOn.indexOf((short) code) >= 0 && (short) code >= 0;
                code(place, code, 0, isOneCut ? 6 : -100 - place);
                code(place, code, 1, isOneShort ? 6 : -100 - place);
                code(place, code, 2, -100 - place);
            }
        }
    }

    private static void code(int place, int code, int lane, int want) {
        RicherChange x = new RicherChange();
        Due.write(x, 2, lane, SIX);
        x.put(2, place, code);
        Due.due("city with " + code + " at " + place + ", lane " + lane, x.city(2, lane, 0, SIX.length()), want);
    }

    private static void cityEndsTooSoon() {
        Due.sentence(2, "how many codes there are, if it just ends too soon");
        for (int n = 0; n <= SIX.length(); n++) {
            boolean isWhole = n >= 9 && n % 4 == 1;
            taken(SIX.substring(0, n), isWhole ? n / 4 : -100 - n);
            // What stands in the row behind the n cells is none of the TEXT.
            RicherChange x = new RicherChange();
            Due.write(x, 0, 2, SIX);
            Due.due(n + " cells of six", x.city(0, 2, 0, n), isWhole ? n / 4 : -100 - n);
        }
    }

    private static void citySeventhHouse() {
        Due.sentence(2, "the ; of a seventh HOUSE");
        taken(SIX + ";", -125);
        taken(SIX + ";h", -125);
        taken(SIX + ";h12", -125);
        taken(SIX + ";h12;h34", -125);
        taken(SIX + "q", -125);
        taken(houses(14), -125);
    }

    private static void cityFirstOfSeveral() {
        Due.sentence(2, "the first code with which no TEXT goes on");
        taken("x;x12;h34", -100);
        taken("q;x12;x34", -102);
        taken("q;h1x;h3x", -104);
        taken("q;h12;x", -106);
        // It is wrong ahead of its end, though it ends too soon as well.
        taken("q;x", -102);
        taken("qq", -101);
    }

    private static void cityTextAtTheEdgesOfARow() {
        Due.sentence(2, "n cells of a SHEET from i on");
        for (int k = 0; k < 4; k++) {
            RicherChange x = new RicherChange();
            x.sheet(k, 2, 60);
            for (int p = 0; p < SIX.length(); p++) {
                x.put(k, 35 + p, SIX.charAt(p));
            }
            Due.due("the last cells of 60", x.city(k, 2, 35, 25), 6);
            Due.due("the last digit", x.ofHouse(5, 2), 4);
            Due.due("the first cells of 60", x.city(k, 2, 0, 25), -100);
            Due.due("one cell too early", x.city(k, 2, 34, 25), -100);
            Due.due("one cell too late", x.city(k, 2, 36, 24), -100);
            Due.due("the six stay", x.many(0), 6);
        }
    }

    private static void cityMakesAllAnew() {
        Due.sentence(2, "A TEXT that is taken makes all anew: no READINGS.");
        String[] texts = {"q;t90;h09", "q;h12;h34;h56", SIX};
        for (String first : texts) {
            for (String second : texts) {
                RicherChange x = Due.of(first);
                x.endow(0, 1, 18);
                x.endow(1, 2, 18);
                x.name(0, 9);
                for (int k = 0; k < 8; k++) {
                    x.reading(0, 0, 1);
                }
                Due.city(x, second);
                String anew = Still.all(Due.of(second));
                Due.due(first + ", then " + second, Still.all(x).equals(anew) ? 1 : 0, 1);
                Due.due("the first READING again", x.reading(0, 0, 1), 0);
            }
        }
    }

    private static void cityNotTakenChangesNothing() {
        Due.sentence(2, "-100 less the FIRST FAULT");
        for (int n = 0; n < 13; n++) {
            int codes = n;
            if (n != 9) {
                Still.faultless("city(3, 0, 0, " + n + ")", x -> x.city(3, 0, 0, codes), -100 - n);
            }
        }
        Still.faultless("city(1, 2, 0, 3)", x -> x.city(1, 2, 0, 3), -100);
    }

    private static void cityUnknown() {
        Due.sentence(2, "UNKNOWN");
        for (int k : Still.beyond(0, 3)) {
            Still.faultless("city(" + k + ", 0, 0, 13)", x -> x.city(k, 0, 0, 13), UNKNOWN);
            Still.faultless("city(" + k + ", 3, -1, -1)", x -> x.city(k, 3, -1, -1), UNKNOWN);
        }
    }

    private static void cityLane() {
        Due.sentence(2, "OUTSIDE: lane");
        for (int lane : Still.beyond(0, 2)) {
            Still.faultless("city(3, " + lane + ", 0, 13)", x -> x.city(3, lane, 0, 13), OUTSIDE);
            Still.faultless("city(2, " + lane + ", -1, -1)", x -> x.city(2, lane, -1, -1), OUTSIDE);
        }
    }

    private static void cityCast() {
        Due.sentence(2, "CAST (nothing is no CAST)");
        for (int of = 0; of < 3; of++) {
            for (int as = 0; as < 3; as++) {
                int own = of;
                int lane = as;
                Supplier<RicherChange> made = () -> withRow(own, 0);
                String call = "a row of lane " + own + ": city(0, " + lane;
                if (own == lane) {
                    Still.faultless(made, call + ", 0, 0)", x -> x.city(0, lane, 0, 0), -100);
                    Still.faulty(made, call + ", -1, -1)", x -> x.city(0, lane, -1, -1), Due.SIZE);
                } else {
                    Still.faulty(made, call + ", 0, 0)", x -> x.city(0, lane, 0, 0), Due.CAST);
                    Still.faulty(made, call + ", -1, -1)", x -> x.city(0, lane, -1, -1), Due.CAST);
                }
            }
        }
    }

    private static RicherChange withRow(int lane, int n) {
        RicherChange x = Due.of("q;h12;k43");
        x.sheet(0, lane, n);
        return x;
    }

    private static void cityNull() {
        Due.sentence(2, "NULL");
        for (int l = 0; l < 3; l++) {
            int lane = l;
            Still.faulty("city(2, " + lane + ", 0, 0)", x -> x.city(2, lane, 0, 0), Due.NULL);
            Still.faulty("city(2, " + lane + ", -1, -1)", x -> x.city(2, lane, -1, -1), Due.NULL);
            Still.faulty(() -> withLostRow(lane), "a lost row: city(0, " + lane + ", 0, 0)",
                x -> x.city(0, lane, 0, 0), Due.NULL);
        }
    }

    private static RicherChange withLostRow(int lane) {
        RicherChange x = withRow(lane, 9);
        x.lose(0);
        return x;
    }

    private static void citySize() {
        Due.sentence(2, "SIZE: n below 0");
        for (int n : new int[] {-1, -2, LEAST + 1, LEAST}) {
            Still.faulty("city(3, 0, 0, " + n + ")", x -> x.city(3, 0, 0, n), Due.SIZE);
            Still.faulty("city(3, 0, 13, " + n + ")", x -> x.city(3, 0, 13, n), Due.SIZE);
            Still.faulty("city(3, 0, -1, " + n + ")", x -> x.city(3, 0, -1, n), Due.SIZE);
            Still.faulty("city(3, 0, 14, " + n + ")", x -> x.city(3, 0, 14, n), Due.SIZE);
        }
    }

    private static void cityIndex() {
        Due.sentence(2, "INDEX");
        int[][] beyond = {{0, 14}, {1, 13}, {12, 2}, {13, 1}, {-1, 1}, {-1, 14}, {0, MOST}, {1, MOST}, {13, MOST},
            {MOST, 1}, {MOST, MOST}, {LEAST, 13}, {LEAST, MOST}};
        for (int[] b : beyond) {
            Still.faulty("city(3, 0, " + b[0] + ", " + b[1] + ")", x -> x.city(3, 0, b[0], b[1]), Due.INDEX);
        }
        // Cells that are no TEXT, too.
        Still.faulty("city(1, 2, 0, 4)", x -> x.city(1, 2, 0, 4), Due.INDEX);
        Still.faultless("city(1, 2, 2, 1)", x -> x.city(1, 2, 2, 1), -100);
        Still.faulty(() -> withRow(0, 0), "of no cells: city(0, 0, 0, 1)", x -> x.city(0, 0, 0, 1), Due.INDEX);
    }

    private static void cityIndexOfNoCells() {
        Due.sentence(2, "INDEX (.. also where i is not 0 .. how many there are, if none of them is taken, too)");
        for (int i = 0; i <= 13; i++) {
            int from = i;
            Still.faultless("city(3, 0, " + i + ", 0)", x -> x.city(3, 0, from, 0), -100);
        }
        for (int i : Still.beyond(0, 13)) {
            Still.faulty("city(3, 0, " + i + ", 0)", x -> x.city(3, 0, i, 0), Due.INDEX);
        }
        Supplier<RicherChange> full = () -> withRow(2, 60);
        Still.faultless(full, "of 60: city(0, 2, 60, 0)", x -> x.city(0, 2, 60, 0), -100);
        Still.faulty(full, "of 60: city(0, 2, 61, 0)", x -> x.city(0, 2, 61, 0), Due.INDEX);
        Supplier<RicherChange> empty = () -> withRow(1, 0);
        Still.faultless(empty, "of none: city(0, 1, 0, 0)", x -> x.city(0, 1, 0, 0), -100);
        Still.faulty(empty, "of none: city(0, 1, 1, 0)", x -> x.city(0, 1, 1, 0), Due.INDEX);
        Still.faulty(empty, "of none: city(0, 1, -1, 0)", x -> x.city(0, 1, -1, 0), Due.INDEX);
    }

    // ---- promise 3

    private static void worth() {
        Due.sentence(3, "of a HOUSE both together; of a KIN 5 more; of a TEMPLE twice what it is of a KIN");
        RicherChange x = Due.of("q;h00;k00;t00;h99;k99;t99");
        int[] want = {0, 5, 10, 18, 23, 46};
        for (int h = 0; h < 6; h++) {
            Due.due("worth of " + h, x.ofHouse(h, 3), want[h]);
            x.endow(h, 1, 18);
            x.endow(h, 2, 18);
            Due.due("worth of " + h + " with the most of both", x.ofHouse(h, 3), new int[] {36, 41, 82}[h % 3]);
        }
    }

    private static void ofHouseUnknown() {
        Due.sentence(3, "UNKNOWN");
        for (int h : Still.beyond(0, 2)) {
            for (int what = -1; what < 5; what++) {
                int of = what;
                Still.plain("ofHouse(" + h + ", " + of + ")", x -> x.ofHouse(h, of), UNKNOWN);
            }
        }
        RicherChange x = Due.of(SIX);
        Due.due("the sixth of six", x.ofHouse(5, 0), 2);
        Due.due("a seventh of six", x.ofHouse(6, 0), UNKNOWN);
    }

    private static void ofHouseOutside() {
        Due.sentence(3, "OUTSIDE");
        int[][] want = {{0, 1, 2, 3}, {1, 4, 3, 12}, {2, 6, 1, 24}};
        for (int h = 0; h < 3; h++) {
            int house = h;
            for (int what = 0; what < 4; what++) {
                int of = what;
                Still.plain("ofHouse(" + h + ", " + of + ")", x -> x.ofHouse(house, of), want[h][what]);
            }
            for (int what : Still.beyond(0, 3)) {
                Still.plain("ofHouse(" + h + ", " + what + ")", x -> x.ofHouse(house, what), OUTSIDE);
            }
        }
    }

    // ---- promise 4

    private static void endowRange() {
        Due.sentence(4, "become v (0 .. 18): what they were");
        for (int what = 1; what <= 2; what++) {
            RicherChange x = Still.town();
            int were = what == 1 ? 4 : 3;
            for (int v : new int[] {0, 18, 0, 1, 17, 18, 18, 9, 10}) {
                String call = "endow(1, " + what + ", " + v + ")";
                Due.due(call, x.endow(1, what, v), were);
                Due.due("then", x.ofHouse(1, what), v);
                Due.due("the other one stays", x.ofHouse(1, 3 - what), what == 1 ? 3 : 4);
                Due.due("the kind stays", x.ofHouse(1, 0), 1);
                were = v;
            }
            Due.due("READINGS stay", x.many(3), 1);
            Due.due("the other HOUSES stay", x.ofHouse(0, 3) * 100 + x.ofHouse(2, 3), 324);
        }
    }

    private static void endowUnknown() {
        Due.sentence(4, "UNKNOWN");
        for (int h : Still.beyond(0, 2)) {
            Still.plain("endow(" + h + ", 1, 0)", x -> x.endow(h, 1, 0), UNKNOWN);
            Still.plain("endow(" + h + ", 0, 19)", x -> x.endow(h, 0, 19), UNKNOWN);
        }
    }

    private static void endowOutside() {
        Due.sentence(4, "OUTSIDE");
        for (int what : Still.beyond(1, 2)) {
            Still.plain("endow(0, " + what + ", 5)", x -> x.endow(0, what, 5), OUTSIDE);
            Still.plain("endow(0, " + what + ", 19)", x -> x.endow(0, what, 19), OUTSIDE);
        }
        for (int v : Still.beyond(0, 18)) {
            Still.plain("endow(2, 1, " + v + ")", x -> x.endow(2, 1, v), OUTSIDE);
            Still.plain("endow(2, 2, " + v + ")", x -> x.endow(2, 2, v), OUTSIDE);
        }
    }

    // ---- promise 5

    private static void hideRange() {
        Due.sentence(5, "v of LAND (0 .. as much as there is) become COIN: how much LAND is left");
        Still.plain("hide(1, 0)", x -> x.hide(1, 0), 4);
        for (int land = 0; land <= 18; land++) {
            for (int v = 0; v <= land; v++) {
                RicherChange x = Still.town();
                x.endow(1, 1, land);
                Due.due("hide(1, " + v + ") of " + land, x.hide(1, v), land - v);
                Due.due("LAND", x.ofHouse(1, 1), land - v);
                Due.due("COIN", x.ofHouse(1, 2), 3 + v);
            }
        }
        RicherChange x = Due.of("q;h12;h99");
        x.endow(1, 2, 18);
        for (int k = 1; k < 100; k++) {
            x.endow(1, 1, 18);
            Due.due("all, again", x.hide(1, 18), 0);
            Due.due("COIN goes on beyond 18", x.ofHouse(1, 2), 18 + 18 * k);
        }
    }

    private static void hideUnknown() {
        Due.sentence(5, "UNKNOWN");
        for (int h : Still.beyond(0, 2)) {
            Still.plain("hide(" + h + ", 0)", x -> x.hide(h, 0), UNKNOWN);
            Still.plain("hide(" + h + ", -1)", x -> x.hide(h, -1), UNKNOWN);
        }
    }

    private static void hideOutside() {
        Due.sentence(5, "OUTSIDE");
        int[] land = {1, 4, 6};
        for (int h = 0; h < 3; h++) {
            int house = h;
            for (int v : Still.beyond(0, land[h])) {
                Still.plain("hide(" + h + ", " + v + ")", x -> x.hide(house, v), OUTSIDE);
            }
        }
        Still.plain(() -> Due.of("q;h09;h12"), "hide(0, 1) of none", x -> x.hide(0, 1), OUTSIDE);
        Still.plain(() -> Due.of("q;h09;h12"), "hide(0, 0) of none", x -> x.hide(0, 0), 0);
    }
}
