/** He is richer, let us change: houses that are named to pay for a chorus, and at whom they point. */
public final class RicherChange {
    public static final int UNKNOWN = -1, OUTSIDE = -2, STATE = -3, FULL = -4, NONE = -9;
    public static final long LOST = Long.MIN_VALUE;

    private static final int NO_FAULT = 0, NULL = 1, CAST = 2, INDEX = 3, SIZE = 4;

    private static final int HOUSE = 0, KIN = 1, TEMPLE = 2, KINDS = 3;
    private static final int LEAST_HOUSES = 2, MOST_HOUSES = 6;
    private static final int MOST_COST = 9, MOST_DIGIT = 9, MOST_ENDOWED = 18;

    /** What ofHouse, endow and the sets ask of a HOUSE. */
    private static final int OF_KIND = 0, OF_LAND = 1, OF_COIN = 2, OF_WORTH = 3;

    private static final int MOST_READINGS = 8;
    private static final int MOST_PAIRS = 20;

    private static final int SHEETS = 4, MOST_CELLS = 60;
    private static final int BYTES = 0, SHORTS = 1, INTS = 2, NOTHING = -1;

    private static final int CODES_OF_HOUSE = 4;

    private final City town = new City();
    private final City trial = new City();
    private final Year told = new Year();
    private final Readings readings = new Readings();
    private final Sheets sheets = new Sheets();
    private int traced;
    private int latestFault;

    public RicherChange() {
    }

    // ---- 1 the city

    public int city(int sheet, int lane, int i, int n) {
        latestFault = NO_FAULT;
        if (!Sheets.isSheet(sheet)) {
            return UNKNOWN;
        }
        if (!Sheets.isLane(lane)) {
            return OUTSIDE;
        }
        int fault = sheets.laneFault(sheet, lane);
        if (fault == NO_FAULT) {
            fault = n < 0 ? SIZE : sheets.spanFault(sheet, i, n);
        }
        if (fault != NO_FAULT) {
            return failed(fault);
        }
        int place = firstFault(sheet, i, n);
        if (place != NONE) {
            return -100 - place;
        }
        settle(sheet, i, n);
        return town.houses;
    }

    public int ofHouse(int h, int what) {
        if (!town.has(h)) {
            return UNKNOWN;
        }
        switch (what) {
            case OF_KIND:
                return town.kind[h];
            case OF_LAND:
                return town.land[h];
            case OF_COIN:
                return town.coin[h];
            case OF_WORTH:
                return town.worthOf(h);
            default:
                return OUTSIDE;
        }
    }

    public int endow(int h, int what, int v) {
        if (!town.has(h)) {
            return UNKNOWN;
        }
        if (what != OF_LAND && what != OF_COIN || v < 0 || v > MOST_ENDOWED) {
            return OUTSIDE;
        }
        int before = what == OF_LAND ? town.land[h] : town.coin[h];
        town.become(h, what, v);
        return before;
    }

    public int hide(int h, int v) {
        if (!town.has(h)) {
            return UNKNOWN;
        }
        if (v < 0 || v > town.land[h]) {
            return OUTSIDE;
        }
        town.turnToCoin(h, v);
        return town.land[h];
    }

    // ---- 2 to be named

    public int answer(int a, int b, int cost) {
        if (!town.has(a) || !town.has(b) || a == b) {
            return UNKNOWN;
        }
        if (!town.mayPoint(a, b)) {
            return STATE;
        }
        if (!isCost(cost)) {
            return OUTSIDE;
        }
        return town.changes(a, b, cost) ? 1 : 0;
    }

    public int choice(int h, int cost, int what) {
        if (!town.has(h)) {
            return UNKNOWN;
        }
        if (!isCost(cost) || what < 0 || what > 3) {
            return OUTSIDE;
        }
        int chosen = town.chosenBy(h, cost);
        switch (what) {
            case 0:
                return chosen;
            case 1:
                return town.worthAtEnd(h, chosen, cost);
            case 2:
                return town.payer(h, chosen, cost);
            default:
                return town.isFair(h, chosen, cost) ? 1 : 0;
        }
    }

    // ---- 3 years

    public int year(int cost, int sheet, int lane, int i, int n, int what) {
        latestFault = NO_FAULT;
        if (!Sheets.isSheet(sheet)) {
            return UNKNOWN;
        }
        if (!isCost(cost) || !Sheets.isLane(lane) || n < 0 || n > MOST_PAIRS || !Year.isAsked(what)) {
            return OUTSIDE;
        }
        if (town.houses == 0) {
            return STATE;
        }
        int fault = sheets.laneFault(sheet, lane);
        if (fault == NO_FAULT) {
            fault = sheets.spanFault(sheet, i, 2 * n);
        }
        if (fault != NO_FAULT) {
            return failed(fault);
        }
        return yearOfPairs(cost, sheet, i, n, what);
    }

    public int name(int h, int cost) {
        if (!town.has(h)) {
            return UNKNOWN;
        }
        if (!isCost(cost)) {
            return OUTSIDE;
        }
        int chosen = town.chosenBy(h, cost);
        int payer = town.payer(h, chosen, cost);
        town.carryOut(h, chosen, cost);
        return payer;
    }

    public int safe(int h, int cost) {
        if (!town.has(h)) {
            return UNKNOWN;
        }
        if (!isCost(cost)) {
            return OUTSIDE;
        }
        trial.likeThat(town);
        int most = town.land[h];
        for (int v = 0; v <= most; v++) {
            if (!trial.isPointedAt(h, cost)) {
                return v;
            }
            trial.turnToCoin(h, 1);
        }
        return NONE;
    }

    // ---- 4 whom they pointed at

    public int reading(int a, int cost, int b) {
        if (!town.has(a) || !town.has(b)) {
            return UNKNOWN;
        }
        if (!isCost(cost)) {
            return OUTSIDE;
        }
        if (readings.count >= MOST_READINGS) {
            return FULL;
        }
        return readings.add(a, cost, b);
    }

    public int back(int k) {
        if (k < 0 || k > readings.count) {
            return OUTSIDE;
        }
        readings.count -= k;
        return readings.count;
    }

    public int lands(int h) {
        return town.has(h) ? possible(h, OF_LAND, MOST_DIGIT + 1) : UNKNOWN;
    }

    public int coins(int h) {
        return town.has(h) ? possible(h, OF_COIN, MOST_DIGIT + 1) : UNKNOWN;
    }

    public int kinds(int h) {
        return town.has(h) ? possible(h, OF_KIND, KINDS) : UNKNOWN;
    }

    public long odds(int cost, int which) {
        if (town.houses == 0 || !isCost(cost) || which < 0 || which > 1) {
            return LOST;
        }
        int fair = 0;
        for (int h = 0; h < town.houses; h++) {
            if (town.isFair(h, town.chosenBy(h, cost), cost)) {
                fair++;
            }
        }
        int part = commonPart(fair, town.houses);
        return (which == 0 ? fair : town.houses) / part;
    }

    // ---- 5 sheets, parts

    public int sheet(int k, int lane, int n) {
        latestFault = NO_FAULT;
        if (!Sheets.isSheet(k)) {
            return UNKNOWN;
        }
        if (!Sheets.isLane(lane) || n > MOST_CELLS) {
            return OUTSIDE;
        }
        if (n < 0) {
            return failed(SIZE);
        }
        sheets.renew(k, lane, n);
        return 1;
    }

    public int lose(int k) {
        if (!Sheets.isSheet(k)) {
            return UNKNOWN;
        }
        if (sheets.isNothing(k)) {
            return 0;
        }
        sheets.drop(k);
        return 1;
    }

    public int put(int k, int i, int v) {
        latestFault = NO_FAULT;
        if (!Sheets.isSheet(k)) {
            return UNKNOWN;
        }
        int fault = sheets.isNothing(k) ? NULL : sheets.cellFault(k, i);
        if (fault != NO_FAULT) {
            return failed(fault);
        }
        sheets.write(k, i, v);
        return 1;
    }

    public long cell(int k, int i, int lane) {
        latestFault = NO_FAULT;
        if (!Sheets.isSheet(k) || !Sheets.isLane(lane)) {
            return LOST;
        }
        int fault = sheets.laneFault(k, lane);
        if (fault == NO_FAULT) {
            fault = sheets.cellFault(k, i);
        }
        if (fault != NO_FAULT) {
            latestFault = fault;
            return LOST;
        }
        return sheets.rows[k][i];
    }

    public int copy(int k, int i, int other, int j, int n) {
        latestFault = NO_FAULT;
        if (!Sheets.isSheet(k) || !Sheets.isSheet(other)) {
            return UNKNOWN;
        }
        if (sheets.isNothing(k) || sheets.isNothing(other)) {
            return failed(NULL);
        }
        if (sheets.lanes[k] != sheets.lanes[other]) {
            return failed(CAST);
        }
        if (sheets.spanFault(k, i, n) != NO_FAULT || sheets.spanFault(other, j, n) != NO_FAULT) {
            return failed(INDEX);
        }
        System.arraycopy(sheets.rows[k], i, sheets.rows[other], j, n);
        return n;
    }

    public int tell(int h) {
        if (!town.has(h)) {
            return UNKNOWN;
        }
        switch (town.kind[h]) {
            case TEMPLE:
                return templeTelling(h);
            case KIN:
                return kinTelling(h);
            default:
                return houseTelling(h);
        }
    }

    public int seal(int h) {
        if (!town.has(h)) {
            return UNKNOWN;
        }
        return town.kind[h] == TEMPLE ? templeSeal() : lentSeal(h);
    }

    public int as(int h, int kind) {
        latestFault = NO_FAULT;
        if (!town.has(h)) {
            return UNKNOWN;
        }
        if (kind < HOUSE || kind >= KINDS) {
            return OUTSIDE;
        }
        // Each kind is one of the kind below it, so a higher number is all the lower ones too.
        return town.kind[h] >= kind ? 1 : failed(CAST);
    }

    public int trace() {
        return traced;
    }

    public int fault() {
        return latestFault;
    }

    public int many(int what) {
        switch (what) {
            case 0:
                return town.houses;
            case 1:
                return town.sum(town.land);
            case 2:
                return town.sum(town.coin);
            case 3:
                return readings.count;
            default:
                return OUTSIDE;
        }
    }

    // ---- what the calls share

    private static boolean isCost(int cost) {
        return cost >= 0 && cost <= MOST_COST;
    }

    private int failed(int fault) {
        latestFault = fault;
        return -10 - fault;
    }

    /** The FIRST FAULT of a TEXT; NONE: it is one. */
    private int firstFault(int sheet, int i, int n) {
        for (int place = 0; place < n; place++) {
            if (!goesOn(place, sheets.rows[sheet][i + place])) {
                return place;
            }
        }
        boolean isWhole = n > CODES_OF_HOUSE * LEAST_HOUSES && n % CODES_OF_HOUSE == 1;
        return isWhole ? NONE : n;
    }

    private static boolean goesOn(int place, int code) {
        if (place == 0) {
            return code == 'q';
        }
        switch ((place - 1) % CODES_OF_HOUSE) {
            case 0:
                return code == ';' && place < CODES_OF_HOUSE * MOST_HOUSES;
            case 1:
                return code == 'h' || code == 'k' || code == 't';
            default:
                return code >= '0' && code <= '9';
        }
    }

    /** Only for a TEXT without a FIRST FAULT. */
    private void settle(int sheet, int i, int n) {
        int[] row = sheets.rows[sheet];
        int houses = Math.min((n - 1) / CODES_OF_HOUSE, MOST_HOUSES);
        for (int h = 0; h < houses; h++) {
            int letter = i + 2 + CODES_OF_HOUSE * h;
            town.kind[h] = kindOf(row[letter]);
            town.land[h] = row[letter + 1] - '0';
            town.coin[h] = row[letter + 2] - '0';
        }
        town.houses = houses;
        readings.count = 0;
    }

    private static int kindOf(int letter) {
        if (letter == 't') {
            return TEMPLE;
        }
        return letter == 'k' ? KIN : HOUSE;
    }

    /** A row with a cell that is no HOUSE is no YEAR, so all cells are looked at ahead of any FIRST WRONG. */
    private int yearOfPairs(int cost, int sheet, int i, int n, int what) {
        if (!areHouses(sheet, i, 2 * n)) {
            return UNKNOWN;
        }
        int[] row = sheets.rows[sheet];
        told.begin(town);
        for (int pair = 0; pair < n; pair++) {
            int a = row[i + 2 * pair];
            int b = row[i + 2 * pair + 1];
            if (a != b && !told.town.mayPoint(a, b)) {
                return what == Year.FIRST_WRONG ? pair : -100 - pair;
            }
            told.pass(a, b, cost);
        }
        return told.result(what);
    }

    /** Only for cells without a FAULT. */
    private boolean areHouses(int sheet, int i, int n) {
        for (int k = 0; k < n; k++) {
            if (!town.has(sheets.rows[sheet][i + k])) {
                return false;
            }
        }
        return true;
    }

    /** The numbers below the bound that all READINGS allow in place of what the HOUSE has. */
    private int possible(int h, int what, int bound) {
        int set = 0;
        trial.likeThat(town);
        for (int v = 0; v < bound; v++) {
            trial.become(h, what, v);
            if (readings.holdIn(trial)) {
                set |= 1 << v;
            }
        }
        return set;
    }

    /** The greatest number that divides both; the lower one is above 0. */
    private static int commonPart(int upper, int lower) {
        for (int part = lower; part > 1; part--) {
            if (upper % part == 0 && lower % part == 0) {
                return part;
            }
        }
        return 1;
    }

    private void leave(int body) {
        traced = 31 * traced + body;
    }

    private int houseTelling(int h) {
        leave(1);
        return town.land[h];
    }

    private int kinTelling(int h) {
        leave(2);
        return houseTelling(h) + 100;
    }

    private int templeTelling(int h) {
        leave(3);
        int ofKin = kinTelling(h);
        return ofKin + houseTelling(h);
    }

    private int lentSeal(int h) {
        leave(4);
        return h;
    }

    private int templeSeal() {
        leave(5);
        return 90;
    }

    /** HOUSES with what they have; whoever calls has asked has() of each number. */
    private static final class City {
        private final int[] kind = new int[MOST_HOUSES];
        private final int[] land = new int[MOST_HOUSES];
        private final int[] coin = new int[MOST_HOUSES];
        private int houses;

        boolean has(int h) {
            return h >= 0 && h < houses;
        }

        void likeThat(City that) {
            System.arraycopy(that.kind, 0, kind, 0, MOST_HOUSES);
            System.arraycopy(that.land, 0, land, 0, MOST_HOUSES);
            System.arraycopy(that.coin, 0, coin, 0, MOST_HOUSES);
            houses = that.houses;
        }

        void become(int h, int what, int v) {
            if (what == OF_KIND) {
                kind[h] = v;
            } else if (what == OF_LAND) {
                land[h] = v;
            } else {
                coin[h] = v;
            }
        }

        void turnToCoin(int h, int v) {
            land[h] -= v;
            coin[h] += v;
        }

        int sum(int[] ofEach) {
            int all = 0;
            for (int h = 0; h < houses; h++) {
                all += ofEach[h];
            }
            return all;
        }

        /** LAND and COIN count alike, so their sum is enough. */
        static int worth(int kind, int wealth) {
            if (kind == HOUSE) {
                return wealth;
            }
            int ofKin = wealth + 5;
            return kind == TEMPLE ? 2 * ofKin : ofKin;
        }

        int wealth(int h) {
            return land[h] + coin[h];
        }

        int wealthWhenPaid(int h, int cost) {
            int left = land[h] + coin[h] - cost;
            return left > 0 ? left : 0;
        }

        int worthOf(int h) {
            return worth(kind[h], wealth(h));
        }

        int worthOfAll() {
            int all = 0;
            for (int h = 0; h < houses; h++) {
                all += worthOf(h);
            }
            return all;
        }

        int richest() {
            int best = 0;
            for (int h = 1; h < houses; h++) {
                if (worthOf(h) > worthOf(best)) {
                    best = h;
                }
            }
            return best;
        }

        boolean mayPoint(int a, int b) {
            return land[b] > land[a];
        }

        /** ANSWER of b to a; of one that PAYS itself (b is a) it is never so. */
        boolean changes(int a, int b, int cost) {
            return a != b && worth(kind[b], wealth(a)) > worth(kind[b], wealthWhenPaid(b, cost));
        }

        int payer(int a, int b, int cost) {
            return changes(a, b, cost) ? a : b;
        }

        int worthAtEnd(int a, int b, int cost) {
            boolean pays = a == b || changes(a, b, cost);
            return worth(kind[a], pays ? wealthWhenPaid(b, cost) : wealth(a));
        }

        int chosenBy(int a, int cost) {
            int chosen = a;
            int most = worthAtEnd(a, a, cost);
            for (int b = 0; b < houses; b++) {
                if (mayPoint(a, b) && worthAtEnd(a, b, cost) > most) {
                    chosen = b;
                    most = worthAtEnd(a, b, cost);
                }
            }
            return chosen;
        }

        boolean isFair(int a, int b, int cost) {
            return payer(a, b, cost) == richest();
        }

        boolean isPointedAt(int h, int cost) {
            for (int a = 0; a < houses; a++) {
                if (a != h && chosenBy(a, cost) == h) {
                    return true;
                }
            }
            return false;
        }

        void carryOut(int a, int b, int cost) {
            boolean isChange = changes(a, b, cost);
            if (isChange) {
                exchange(a, b);
            }
            pay(isChange ? a : b, cost);
        }

        private void exchange(int a, int b) {
            int landOfA = land[a];
            int coinOfA = coin[a];
            land[a] = land[b];
            coin[a] = coin[b];
            land[b] = landOfA;
            coin[b] = coinOfA;
        }

        private void pay(int h, int cost) {
            int rest = Math.max(0, cost - coin[h]);
            coin[h] = Math.max(0, coin[h] - cost);
            land[h] = Math.max(0, land[h] - rest);
        }
    }

    /** A YEAR that goes on pair by pair in a CITY of its own. */
    private static final class Year {
        private static final int FIRST_WRONG = 1, LAND_OF = 10, PAID_BY = 20;

        private final City town = new City();
        private final int[] paid = new int[MOST_HOUSES];
        private int changed;
        private int fair;

        static boolean isAsked(int what) {
            return what >= 0 && what <= 3 || isOfOne(what, LAND_OF) || isOfOne(what, PAID_BY);
        }

        private static boolean isOfOne(int what, int first) {
            return what >= first && what < first + MOST_HOUSES;
        }

        void begin(City from) {
            town.likeThat(from);
            for (int h = 0; h < MOST_HOUSES; h++) {
                paid[h] = 0;
            }
            changed = 0;
            fair = 0;
        }

        void pass(int a, int b, int cost) {
            if (town.changes(a, b, cost)) {
                changed++;
            }
            if (town.isFair(a, b, cost)) {
                fair++;
            }
            paid[town.payer(a, b, cost)]++;
            town.carryOut(a, b, cost);
        }

        /** Only for a YEAR without a FIRST WRONG. */
        int result(int what) {
            switch (what) {
                case 0:
                    return town.worthOfAll();
                case FIRST_WRONG:
                    return NONE;
                case 2:
                    return changed;
                case 3:
                    return fair;
                default:
                    return what >= PAID_BY ? ofOne(paid, what - PAID_BY) : ofOne(town.land, what - LAND_OF);
            }
        }

        private int ofOne(int[] ofEach, int h) {
            return town.has(h) ? ofEach[h] : NONE;
        }
    }

    /** READINGS in the order in which they came; those from count on are free. */
    private static final class Readings {
        private final int[] named = new int[MOST_READINGS];
        private final int[] costs = new int[MOST_READINGS];
        private final int[] chosen = new int[MOST_READINGS];
        private int count;

        /** Only while there are fewer than MOST_READINGS. */
        int add(int a, int cost, int b) {
            int number = count;
            named[number] = a;
            costs[number] = cost;
            chosen[number] = b;
            count++;
            return number;
        }

        boolean holdIn(City town) {
            for (int k = 0; k < count; k++) {
                if (town.chosenBy(named[k], costs[k]) != chosen[k]) {
                    return false;
                }
            }
            return true;
        }
    }

    /** SHEETS; their rows are made once and used again, so that calls make nothing. */
    private static final class Sheets {
        private final int[][] rows = new int[SHEETS][MOST_CELLS];
        private final int[] lanes = {NOTHING, NOTHING, NOTHING, NOTHING};
        private final int[] lengths = new int[SHEETS];

        static boolean isSheet(int k) {
            return k >= 0 && k < SHEETS;
        }

        static boolean isLane(int lane) {
            return lane >= BYTES && lane <= INTS;
        }

        boolean isNothing(int k) {
            return lanes[k] == NOTHING;
        }

        void renew(int k, int lane, int n) {
            for (int i = 0; i < MOST_CELLS; i++) {
                rows[k][i] = 0;
            }
            lanes[k] = lane;
            lengths[k] = n;
        }

        void drop(int k) {
            lanes[k] = NOTHING;
            lengths[k] = 0;
        }

        /** CAST goes ahead of NULL, but nothing is of no LANE that could be wrong. */
        int laneFault(int k, int lane) {
            if (isNothing(k)) {
                return NULL;
            }
            return lanes[k] == lane ? NO_FAULT : CAST;
        }

        int cellFault(int k, int i) {
            return i >= 0 && i < lengths[k] ? NO_FAULT : INDEX;
        }

        /** Told without i + n, which could wrap. */
        int spanFault(int k, int i, int n) {
            boolean isInside = i >= 0 && i <= lengths[k] && n >= 0 && n <= lengths[k] - i;
            return isInside ? NO_FAULT : INDEX;
        }

        void write(int k, int i, int v) {
            rows[k][i] = cut(lanes[k], v);
        }

        private static int cut(int lane, int v) {
            if (lane == BYTES) {
                return (byte) v;
            }
            return lane == SHORTS ? (short) v : v;
        }
    }
}
