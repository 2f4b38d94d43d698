/** Promises 1 to 5: a new object, city, ofHouse, endow, hide. */
final class CityTest {
    private static final int UNKNOWN = RicherChange.UNKNOWN, OUTSIDE = RicherChange.OUTSIDE;
    private static final String SIX = "q;h00;k11;t22;h33;k44;t99";

    public static void main(String[] args) {
        newObject();
        texts();
        wrongCity();
        refusedCityChangesNothing();
        takenCityMakesAllAnew();
        ofHouse();
        endow();
        hide();
        Due.end();
    }

    private static void newObject() {
        RicherChange x = new RicherChange();
        for (int what = 0; what < 4; what++) {
            Due.due("many of a new object", x.many(what), 0);
        }
        Due.due("trace of a new object", x.trace(), 0);
        Due.due("fault of a new object", x.fault(), 0);
        Due.due("ofHouse of a new object", x.ofHouse(0, 0), UNKNOWN);
        for (int k = 0; k < 4; k++) {
            Due.due("lose of a new object", x.lose(k), 0);
            Due.fault(x, "put of a new object", x.put(k, 0, 0), Due.NULL);
        }
    }

    private static void text(String text, int want) {
        for (int lane = 0; lane < 3; lane++) {
            RicherChange x = new RicherChange();
            Due.write(x, lane, lane, text);
            Due.due("city of " + text, x.city(lane, lane, 0, text.length()), want);
            Due.due("fault after " + text, x.fault(), 0);
            Due.due("many(0) after " + text, x.many(0), Math.max(want, 0));
        }
    }

    private static void texts() {
        text("", -100);
        text("x", -100);
        text("Q;h12;h34", -100);
        text(";h12;h34", -100);
        text("q", -101);
        text("qh12;h34", -101);
        text("q:h12;h34", -101);
        text("q;", -102);
        text("q;;h12", -102);
        text("q;H12;h34", -102);
        text("q;q12;h34", -102);
        text("q;h", -103);
        text("q;hh2;h34", -103);
        text("q;h/2;h34", -103);
        text("q;h:2;h34", -103);
        text("q;h1", -104);
        text("q;h1;h34", -104);
        text("q;h1/;h34", -104);
        text("q;h1:;h34", -104);
        text("q;h12", -105);
        text("q;h123;h34", -105);
        text("q;h12;", -106);
        text("q;h12;h3", -108);
        text("q;h12;h34", 2);
        text("q;h12;h34 ", -109);
        text("q;h12;h34;", -110);
        text("q;k09;t90;h55", 3);
        text(SIX.substring(0, 21), 5);
        text(SIX.substring(0, 24), -124);
        text(SIX, 6);
        text(SIX + ";", -125);
        text(SIX + ";h12", -125);
        text(SIX + "x", -125);
    }

    private static void wrongCity() {
        RicherChange x = new RicherChange();
        Due.due("city(-1)", x.city(-1, 3, 0, 9), UNKNOWN);
        Due.due("city(4)", x.city(4, 0, 0, 9), UNKNOWN);
        Due.due("lane -1", x.city(0, -1, 0, 9), OUTSIDE);
        Due.due("lane 3", x.city(0, 3, 0, 9), OUTSIDE);
        Due.fault(x, "nothing", x.city(0, 0, 0, -1), Due.NULL);
        Due.write(x, 0, 1, "..q;h12;h34.");
        Due.fault(x, "unlike lane", x.city(0, 0, 0, -1), Due.CAST);
        Due.fault(x, "unlike lane", x.city(0, 2, 0, 9), Due.CAST);
        Due.fault(x, "n -1", x.city(0, 1, -1, -1), Due.SIZE);
        Due.fault(x, "n least", x.city(0, 1, 0, Integer.MIN_VALUE), Due.SIZE);
        Due.fault(x, "i -1", x.city(0, 1, -1, 0), Due.INDEX);
        Due.fault(x, "i 13", x.city(0, 1, 13, 0), Due.INDEX);
        Due.due("i 12, n 0", x.city(0, 1, 12, 0), -100);
        Due.due("fault()", x.fault(), 0);
        Due.fault(x, "n 13", x.city(0, 1, 0, 13), Due.INDEX);
        Due.fault(x, "i 4, n 9", x.city(0, 1, 4, 9), Due.INDEX);
        Due.fault(x, "wrap", x.city(0, 1, 2, Integer.MAX_VALUE), Due.INDEX);
        Due.fault(x, "wrap", x.city(0, 1, Integer.MAX_VALUE, Integer.MAX_VALUE), Due.INDEX);
        Due.due("sheet 4 after a fault", x.city(4, 1, 0, 9), UNKNOWN);
        Due.due("fault()", x.fault(), 0);
        Due.due("from 2 on", x.city(0, 1, 2, 9), 2);
        Due.due("land of 1", x.ofHouse(1, 1), 3);
        Due.due("coin of 1", x.ofHouse(1, 2), 4);
        Due.due("one more", x.city(0, 1, 2, 10), -109);
    }

    private static void refusedCityChangesNothing() {
        RicherChange x = Due.of("q;h12;k34;t56");
        x.reading(0, 1, 0);
        x.city(3, 0, 0, 12);
        x.city(3, 0, 0, 14);
        x.city(3, 1, 0, 13);
        x.city(3, 0, 0, -1);
        Due.due("houses", x.many(0), 3);
        Due.due("land", x.many(1), 9);
        Due.due("coin", x.many(2), 12);
        Due.due("readings", x.many(3), 1);
    }

    private static void takenCityMakesAllAnew() {
        RicherChange x = Due.of("q;h12;k34;t56");
        x.reading(0, 1, 0);
        x.tell(0);
        Due.due("smaller city", Due.city(x, "q;t11;h22"), 2);
        Due.due("no third house", x.ofHouse(2, 0), UNKNOWN);
        Due.due("kind of 0", x.ofHouse(0, 0), 2);
        Due.due("land", x.many(1), 3);
        Due.due("coin", x.many(2), 3);
        Due.due("readings", x.many(3), 0);
        Due.due("TRACE is of the object, not of the city", x.trace(), 1);
    }

    private static void ofHouse() {
        RicherChange x = Due.of("q;h12;k34;t56");
        int[][] want = {{0, 1, 2, 3}, {1, 3, 4, 12}, {2, 5, 6, 32}};
        for (int h = 0; h < 3; h++) {
            for (int what = 0; what < 4; what++) {
                Due.due("ofHouse(" + h + ", " + what + ")", x.ofHouse(h, what), want[h][what]);
            }
            Due.due("what -1", x.ofHouse(h, -1), OUTSIDE);
            Due.due("what 4", x.ofHouse(h, 4), OUTSIDE);
        }
        Due.due("house -1", x.ofHouse(-1, 9), UNKNOWN);
        Due.due("house 3", x.ofHouse(3, 9), UNKNOWN);
    }

    private static void endow() {
        RicherChange x = Due.of("q;h12;k34");
        Due.due("endow land", x.endow(1, 1, 18), 3);
        Due.due("endow land again", x.endow(1, 1, 0), 18);
        Due.due("endow coin", x.endow(1, 2, 18), 4);
        Due.due("land", x.ofHouse(1, 1), 0);
        Due.due("coin", x.ofHouse(1, 2), 18);
        Due.due("worth", x.ofHouse(1, 3), 23);
        Due.due("v 19", x.endow(1, 1, 19), OUTSIDE);
        Due.due("v -1", x.endow(1, 2, -1), OUTSIDE);
        Due.due("what 0", x.endow(1, 0, 1), OUTSIDE);
        Due.due("what 3", x.endow(1, 3, 1), OUTSIDE);
        Due.due("house -1", x.endow(-1, 0, 1), UNKNOWN);
        Due.due("house 2", x.endow(2, 1, 19), UNKNOWN);
        Due.due("kind stays", x.ofHouse(1, 0), 1);
        Due.due("the other stays", x.ofHouse(0, 3), 3);
        Due.due("coin stays", x.ofHouse(1, 2), 18);
    }

    private static void hide() {
        RicherChange x = Due.of("q;h12;k54");
        Due.due("hide 2 of 5", x.hide(1, 2), 3);
        Due.due("coin", x.ofHouse(1, 2), 6);
        Due.due("worth stays", x.ofHouse(1, 3), 14);
        Due.due("hide 0", x.hide(1, 0), 3);
        Due.due("hide 4 of 3", x.hide(1, 4), OUTSIDE);
        Due.due("hide -1", x.hide(1, -1), OUTSIDE);
        Due.due("hide all", x.hide(1, 3), 0);
        Due.due("hide 1 of 0", x.hide(1, 1), OUTSIDE);
        Due.due("coin", x.ofHouse(1, 2), 9);
        Due.due("house -1", x.hide(-1, 0), UNKNOWN);
        Due.due("house 2", x.hide(2, -1), UNKNOWN);
        x.endow(1, 1, 18);
        x.endow(1, 2, 18);
        Due.due("hide 18", x.hide(1, 18), 0);
        Due.due("coin beyond what may be endowed", x.endow(1, 2, 0), 36);
    }
}
