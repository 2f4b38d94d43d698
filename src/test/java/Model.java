import java.util.ArrayList;
import java.util.List;

/**
 * The document once more, written for another way of being wrong: real classes, real rows, and the
 * FAULTS are what the Java machine throws.
 */
final class Model {
    static final long LOST = Long.MIN_VALUE;

    private static final class Refusal extends RuntimeException {
        private static final long serialVersionUID = 1;
        final int number;

        Refusal(int number) {
            this.number = number;
        }
    }

    private interface Sealed {
        int number();

        void leave(int body);

        default int sealed() {
            leave(4);
            return number();
        }
    }

    private static class House implements Sealed {
        Model city;
        int number, land, coin;

        int kind() {
            return 0;
        }

        int worth(int land, int coin) {
            return land + coin;
        }

        public int number() {
            return number;
        }

        public void leave(int body) {
            city.trace = city.trace * 31 + body;
        }

        int toldAsHouse() {
            leave(1);
            return land;
        }

        int told() {
            return toldAsHouse();
        }

        final int worthNow() {
            return worth(land, coin);
        }

        final void pay(int cost) {
            for (int k = 0; k < cost; k++) {
                if (coin > 0) {
                    coin--;
                } else if (land > 0) {
                    land--;
                }
            }
        }
    }

    private static class Kin extends House {
        int kind() {
            return 1;
        }

        int worth(int land, int coin) {
            return super.worth(land, coin) + 5;
        }

        int told() {
            leave(2);
            return super.told() + 100;
        }
    }

    private static final class Temple extends Kin {
        int kind() {
            return 2;
        }

        int worth(int land, int coin) {
            return super.worth(land, coin) * 2;
        }

        int told() {
            leave(3);
            return super.told() + toldAsHouse();
        }

        public int sealed() {
            leave(5);
            return 90;
        }
    }

    private static House house(int kind) {
        return kind == 0 ? new House() : kind == 1 ? new Kin() : new Temple();
    }

    private House[] houses = new House[0];
    private final List<int[]> readings = new ArrayList<>();
    private final Object[] sheets = new Object[4];
    private int trace, fault;

    private static void need(boolean holds, int refusal) {
        if (!holds) {
            throw new Refusal(refusal);
        }
    }

    private static boolean in(int v, int least, int most) {
        return least <= v && v <= most;
    }

    private House at(int h) {
        need(in(h, 0, houses.length - 1), -1);
        return houses[h];
    }

    /** One call by its number in the order of the face. */
    long call(int which, int[] p) {
        boolean namesFaults = which == 0 || which == 6 || which == 15 || which >= 17 && which <= 19 || which == 22;
        boolean isLong = which == 14 || which == 18;
        if (namesFaults) {
            fault = 0;
        }
        try {
            return which < 15 ? upper(which, p) : lower(which, p);
        } catch (Refusal r) {
            return isLong ? LOST : r.number;
        } catch (NullPointerException e) {
            fault = 1;
        } catch (ClassCastException e) {
            fault = 2;
        } catch (IndexOutOfBoundsException e) {
            fault = 3;
        } catch (NegativeArraySizeException e) {
            fault = 4;
        }
        return isLong ? LOST : -10 - fault;
    }

    private long upper(int which, int[] p) {
        switch (which) {
            case 0: return city(p[0], p[1], p[2], p[3]);
            case 1: return ofHouse(p[0], p[1]);
            case 2: return endow(p[0], p[1], p[2]);
            case 3: return hide(p[0], p[1]);
            case 4: return answer(p[0], p[1], p[2]);
            case 5: return choice(p[0], p[1], p[2]);
            case 6: return year(p[0], p[1], p[2], p[3], p[4], p[5]);
            case 7: return name(p[0], p[1]);
            case 8: return safe(p[0], p[1]);
            case 9: return reading(p[0], p[1], p[2]);
            case 10: return back(p[0]);
            case 11: return set(p[0], 1, 10);
            case 12: return set(p[0], 2, 10);
            case 13: return set(p[0], 0, 3);
            default: return odds(p[0], p[1]);
        }
    }

    private long lower(int which, int[] p) {
        switch (which) {
            case 15: return sheet(p[0], p[1], p[2]);
            case 16: return lose(p[0]);
            case 17: return put(p[0], p[1], p[2]);
            case 18: return cell(p[0], p[1], p[2]);
            case 19: return copy(p[0], p[1], p[2], p[3], p[4]);
            case 20: return at(p[0]).told();
            case 21: return at(p[0]).sealed();
            case 22: return as(p[0], p[1]);
            case 23: return trace;
            case 24: return fault;
            default: return many(p[0]);
        }
    }

    private static int[] taken(Object row, int lane, int i, int n) {
        int[] all;
        if (lane == 0) {
            byte[] bytes = (byte[]) row;
            all = new int[bytes.length];
            for (int k = 0; k < all.length; k++) {
                all[k] = bytes[k];
            }
        } else if (lane == 1) {
            short[] shorts = (short[]) row;
            all = new int[shorts.length];
            for (int k = 0; k < all.length; k++) {
                all[k] = shorts[k];
            }
        } else {
            all = ((int[]) row).clone();
        }
        int[] some = new int[Math.min(n, 100)];
        System.arraycopy(all, i, some, 0, n);
        return some;
    }

    private int city(int sheet, int lane, int i, int n) {
        need(in(sheet, 0, 3), -1);
        need(in(lane, 0, 2), -2);
        int[] codes = taken(sheets[sheet], lane, i, n);
        StringBuilder text = new StringBuilder();
        for (int k = 0; k < n; k++) {
            text.append(in(codes[k], 1, 126) ? (char) codes[k] : '\0');
            if (!isBegun(text.toString())) {
                return -100 - k;
            }
        }
        if (!text.toString().matches("q(;[hkt][0-9][0-9]){2,6}")) {
            return -100 - n;
        }
        String[] parts = text.toString().split(";");
        houses = new House[parts.length - 1];
        for (int h = 0; h < houses.length; h++) {
            houses[h] = house("hkt".indexOf(parts[h + 1].charAt(0)));
            houses[h].city = this;
            houses[h].number = h;
            houses[h].land = Character.digit(parts[h + 1].charAt(1), 10);
            houses[h].coin = Character.digit(parts[h + 1].charAt(2), 10);
        }
        readings.clear();
        return houses.length;
    }

    /** Whether some TEXT begins so: it is filled up with one that is known to go on. */
    private static boolean isBegun(String text) {
        String known = "q;h00;h00;h00;h00;h00;h00";
        return text.length() <= known.length()
            && (text + known.substring(text.length())).matches("q(;[hkt][0-9][0-9]){6}");
    }

    private int ofHouse(int h, int what) {
        House house = at(h);
        need(in(what, 0, 3), -2);
        return new int[] {house.kind(), house.land, house.coin, house.worthNow()}[what];
    }

    private int endow(int h, int what, int v) {
        House house = at(h);
        need(in(what, 1, 2) && in(v, 0, 18), -2);
        int before = what == 1 ? house.land : house.coin;
        if (what == 1) {
            house.land = v;
        } else {
            house.coin = v;
        }
        return before;
    }

    private int hide(int h, int v) {
        House house = at(h);
        need(in(v, 0, house.land), -2);
        house.coin += v;
        return house.land -= v;
    }

    private static House[] clones(House[] from) {
        House[] to = new House[from.length];
        for (int h = 0; h < to.length; h++) {
            to[h] = like(from[h], from[h].kind());
        }
        return to;
    }

    private static House like(House from, int kind) {
        House to = house(kind);
        to.city = from.city;
        to.number = from.number;
        to.land = from.land;
        to.coin = from.coin;
        return to;
    }

    private static boolean wouldChange(House a, House b, int cost) {
        House paid = like(b, b.kind());
        paid.pay(cost);
        return b.worth(a.land, a.coin) > paid.worthNow();
    }

    /** Carries a pair out: {who PAYS, whether they CHANGE, whether it is FAIR}. */
    private static int[] pair(House[] all, int a, int b, int cost) {
        int richest = 0;
        for (int h = all.length - 1; h >= 0; h--) {
            if (all[h].worthNow() >= all[richest].worthNow()) {
                richest = h;
            }
        }
        boolean change = a != b && wouldChange(all[a], all[b], cost);
        if (change) {
            int land = all[a].land;
            int coin = all[a].coin;
            all[a].land = all[b].land;
            all[a].coin = all[b].coin;
            all[b].land = land;
            all[b].coin = coin;
        }
        int payer = change ? a : b;
        all[payer].pay(cost);
        return new int[] {payer, change ? 1 : 0, payer == richest ? 1 : 0};
    }

    private static int chosen(House[] all, int a, int cost) {
        int best = -1;
        int most = Integer.MIN_VALUE;
        for (int k = -1; k < all.length; k++) {
            int b = k < 0 ? a : k;
            if (k >= 0 && all[b].land <= all[a].land) {
                continue;
            }
            House[] then = clones(all);
            pair(then, a, b, cost);
            if (then[a].worthNow() > most) {
                most = then[a].worthNow();
                best = b;
            }
        }
        return best;
    }

    private int answer(int a, int b, int cost) {
        need(a != b, -1);
        House one = at(a);
        House other = at(b);
        need(other.land > one.land, -3);
        need(in(cost, 0, 9), -2);
        return wouldChange(one, other, cost) ? 1 : 0;
    }

    private int choice(int h, int cost, int what) {
        at(h);
        need(in(cost, 0, 9) && in(what, 0, 3), -2);
        int b = chosen(houses, h, cost);
        House[] then = clones(houses);
        int[] told = pair(then, h, b, cost);
        return new int[] {b, then[h].worthNow(), told[0], told[2]}[what];
    }

    private int year(int cost, int sheet, int lane, int i, int n, int what) {
        need(in(sheet, 0, 3), -1);
        need(in(cost, 0, 9) && in(lane, 0, 2) && in(n, 0, 20), -2);
        need(in(what, 0, 3) || in(what, 10, 15) || in(what, 20, 25), -2);
        need(houses.length > 0, -3);
        int[] cells = taken(sheets[sheet], lane, i, 2 * n);
        for (int h : cells) {
            at(h);
        }
        House[] then = clones(houses);
        int[] paid = new int[6];
        int changes = 0;
        int fair = 0;
        for (int k = 0; k < n; k++) {
            int a = cells[2 * k];
            int b = cells[2 * k + 1];
            if (a != b && then[b].land <= then[a].land) {
                return what == 1 ? k : -100 - k;
            }
            int[] told = pair(then, a, b, cost);
            paid[told[0]]++;
            changes += told[1];
            fair += told[2];
        }
        if (what < 4) {
            int worth = 0;
            for (House house : then) {
                worth += house.worthNow();
            }
            return new int[] {worth, -9, changes, fair}[what];
        }
        int h = what % 10;
        return h >= then.length ? -9 : what < 20 ? then[h].land : paid[h];
    }

    private int name(int h, int cost) {
        at(h);
        need(in(cost, 0, 9), -2);
        return pair(houses, h, chosen(houses, h, cost), cost)[0];
    }

    private int safe(int h, int cost) {
        House house = at(h);
        need(in(cost, 0, 9), -2);
        for (int v = 0; v <= house.land; v++) {
            House[] then = clones(houses);
            then[h].land -= v;
            then[h].coin += v;
            boolean pointed = false;
            for (int a = 0; a < then.length; a++) {
                pointed |= a != h && chosen(then, a, cost) == h;
            }
            if (!pointed) {
                return v;
            }
        }
        return -9;
    }

    private int reading(int a, int cost, int b) {
        at(a);
        at(b);
        need(in(cost, 0, 9), -2);
        need(readings.size() < 8, -4);
        readings.add(new int[] {a, cost, b});
        return readings.size() - 1;
    }

    private int back(int k) {
        need(in(k, 0, readings.size()), -2);
        readings.subList(readings.size() - k, readings.size()).clear();
        return readings.size();
    }

    private int set(int h, int what, int bound) {
        at(h);
        int set = 0;
        for (int v = 0; v < bound; v++) {
            House[] then = clones(houses);
            if (what == 0) {
                then[h] = like(then[h], v);
            } else if (what == 1) {
                then[h].land = v;
            } else {
                then[h].coin = v;
            }
            boolean all = true;
            for (int[] r : readings) {
                all &= chosen(then, r[0], r[1]) == r[2];
            }
            set += all ? 1 << v : 0;
        }
        return set;
    }

    private long odds(int cost, int which) {
        need(houses.length > 0, -3);
        need(in(cost, 0, 9) && in(which, 0, 1), -2);
        int upper = 0;
        for (int h = 0; h < houses.length; h++) {
            upper += choice(h, cost, 3);
        }
        int lower = houses.length;
        for (int d = 2; d <= lower; d++) {
            while (upper % d == 0 && lower % d == 0) {
                upper /= d;
                lower /= d;
            }
        }
        return which == 0 ? upper : lower;
    }

    private int sheet(int k, int lane, int n) {
        need(in(k, 0, 3), -1);
        need(in(lane, 0, 2) && n <= 60, -2);
        sheets[k] = lane == 0 ? new byte[n] : lane == 1 ? new short[n] : (Object) new int[n];
        return 1;
    }

    private int lose(int k) {
        need(in(k, 0, 3), -1);
        int had = sheets[k] == null ? 0 : 1;
        sheets[k] = null;
        return had;
    }

    private int put(int k, int i, int v) {
        need(in(k, 0, 3), -1);
        if (sheets[k] instanceof byte[]) {
            ((byte[]) sheets[k])[i] = (byte) v;
        } else if (sheets[k] instanceof short[]) {
            ((short[]) sheets[k])[i] = (short) v;
        } else {
            ((int[]) sheets[k])[i] = v;
        }
        return 1;
    }

    private long cell(int k, int i, int lane) {
        need(in(k, 0, 3), -1);
        need(in(lane, 0, 2), -2);
        return lane == 0 ? ((byte[]) sheets[k])[i] : lane == 1 ? ((short[]) sheets[k])[i] : ((int[]) sheets[k])[i];
    }

    private int copy(int k, int i, int other, int j, int n) {
        need(in(k, 0, 3) && in(other, 0, 3), -1);
        if (sheets[k] == null || sheets[other] == null) {
            throw new NullPointerException();
        }
        sheets[k].getClass().cast(sheets[other]);
        System.arraycopy(sheets[k], i, sheets[other], j, n);
        return n;
    }

    private int as(int h, int kind) {
        House house = at(h);
        need(in(kind, 0, 2), -2);
        Class<?> as = kind == 0 ? House.class : kind == 1 ? Kin.class : Temple.class;
        as.cast(house);
        return 1;
    }

    private int many(int what) {
        need(in(what, 0, 3), -2);
        int land = 0;
        int coin = 0;
        for (House house : houses) {
            land += house.land;
            coin += house.coin;
        }
        return new int[] {houses.length, land, coin, readings.size()}[what];
    }
}
