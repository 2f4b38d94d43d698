import java.util.Arrays;
import java.util.Random;

/** All promises: runs of drawn calls (always the same ones), whose answers are to be the Model's. */
final class ModelTest {
    private static final String[] NAMES = {"city", "ofHouse", "endow", "hide", "answer", "choice", "year",
        "name", "safe", "reading", "back", "lands", "coins", "kinds", "odds", "sheet", "lose", "put", "cell",
        "copy", "tell", "seal", "as", "trace", "fault", "many"};
    private static final int[] WILD = {Integer.MIN_VALUE, Integer.MIN_VALUE + 1, -1000, -129, -2, -1, 0, 1,
        59, 60, 61, 255, 65536, Integer.MAX_VALUE - 1, Integer.MAX_VALUE};

    private final Random random;
    private final RicherChange x = new RicherChange();
    private final Model model = new Model();

    private ModelTest(long seed) {
        random = new Random(seed);
    }

    public static void main(String[] args) {
        for (int run = 0; run < 600; run++) {
            new ModelTest(run).run();
        }
        Due.end();
    }

    private void run() {
        for (int k = 0; k < 300; k++) {
            int draw = random.nextInt(100);
            if (draw < 2) {
                writeCity();
            } else if (draw < 4) {
                writePairs();
            } else if (draw < 10) {
                readTruly();
            } else {
                drawnCall();
            }
        }
    }

    private long both(int which, int... p) {
        int[] all = Arrays.copyOf(p, 6);
        long want = model.call(which, all);
        Due.due(NAMES[which] + Arrays.toString(p), call(which, all), want);
        return want;
    }

    private void writeCity() {
        StringBuilder text = new StringBuilder("q");
        int houses = 2 + random.nextInt(5);
        int most = 1 + random.nextInt(10);
        for (int h = 0; h < houses; h++) {
            text.append(';').append("hkt".charAt(random.nextInt(3)));
            text.append(random.nextInt(most)).append(random.nextInt(most));
        }
        if (random.nextInt(4) == 0) {
            text.setCharAt(random.nextInt(text.length()), "q;hkt059/:x".charAt(random.nextInt(11)));
        }
        int sheet = random.nextInt(4);
        int lane = random.nextInt(3);
        int from = random.nextInt(4);
        both(15, sheet, lane, Math.min(60, from + text.length() + random.nextInt(3)));
        for (int i = 0; i < text.length(); i++) {
            both(17, sheet, from + i, text.charAt(i));
        }
        both(0, sheet, lane, from, text.length() + (random.nextInt(5) == 0 ? random.nextInt(5) - 2 : 0));
    }

    private void writePairs() {
        int sheet = random.nextInt(4);
        int lane = random.nextInt(3);
        int length = random.nextInt(43);
        both(15, sheet, lane, length);
        int bound = 2 + random.nextInt(6);
        boolean truly = random.nextBoolean();
        for (int i = 0; i < length; i++) {
            both(17, sheet, i, random.nextInt(bound) - (random.nextInt(50) == 0 ? 1 : 0));
        }
        int cost = random.nextInt(10);
        for (int i = 0; truly && i + 1 < length; i += 2) {
            long chosen = both(5, random.nextInt(bound), random.nextInt(10), 0);
            both(17, sheet, i, (int) chosen);
            both(17, sheet, i + 1, (int) chosen);
        }
        for (int what = 0; what < 27; what++) {
            both(6, cost, sheet, lane, 2 * random.nextInt(2), random.nextInt(1 + length / 2), what);
        }
    }

    /** READINGS that the city bears out, or the sets would nearly always have nothing. */
    private void readTruly() {
        int a = random.nextInt(6);
        int cost = random.nextInt(10);
        int b = (int) both(5, a, cost, 0);
        both(9, a, cost, b);
        both(11 + random.nextInt(3), random.nextInt(6));
    }

    private void drawnCall() {
        int which = random.nextInt(NAMES.length);
        int[] p = new int[6];
        for (int k = 0; k < 6; k++) {
            int draw = random.nextInt(40);
            p[k] = draw == 0 ? WILD[random.nextInt(WILD.length)] : random.nextInt(draw < 30 ? 4 : 11) - (draw < 3 ? 1 : 0);
        }
        both(which, p);
        both(24);
        both(23);
        both(25, random.nextInt(4));
    }

    private long call(int which, int[] p) {
        return which < 13 ? upper(which, p) : lower(which, p);
    }

    private long upper(int which, int[] p) {
        switch (which) {
            case 0: return x.city(p[0], p[1], p[2], p[3]);
            case 1: return x.ofHouse(p[0], p[1]);
            case 2: return x.endow(p[0], p[1], p[2]);
            case 3: return x.hide(p[0], p[1]);
            case 4: return x.answer(p[0], p[1], p[2]);
            case 5: return x.choice(p[0], p[1], p[2]);
            case 6: return x.year(p[0], p[1], p[2], p[3], p[4], p[5]);
            case 7: return x.name(p[0], p[1]);
            case 8: return x.safe(p[0], p[1]);
            case 9: return x.reading(p[0], p[1], p[2]);
            case 10: return x.back(p[0]);
            case 11: return x.lands(p[0]);
            default: return x.coins(p[0]);
        }
    }

    private long lower(int which, int[] p) {
        switch (which) {
            case 13: return x.kinds(p[0]);
            case 14: return x.odds(p[0], p[1]);
            case 15: return x.sheet(p[0], p[1], p[2]);
            case 16: return x.lose(p[0]);
            case 17: return x.put(p[0], p[1], p[2]);
            case 18: return x.cell(p[0], p[1], p[2]);
            case 19: return x.copy(p[0], p[1], p[2], p[3], p[4]);
            case 20: return x.tell(p[0]);
            case 21: return x.seal(p[0]);
            case 22: return x.as(p[0], p[1]);
            case 23: return x.trace();
            case 24: return x.fault();
            default: return x.many(p[0]);
        }
    }
}
