/** What the tests share: a count of wrong answers, and texts on sheets. */
final class Due {
    static final int NULL = 1, CAST = 2, INDEX = 3, SIZE = 4;
    private static int wrong = 0;
    private static int asked = 0;
    private static String sentence = "";

    private Due() {
    }

    /** The sentence of the document that the answers from here on are asked for. */
    static void sentence(int promise, String words) {
        sentence = "promise " + promise + ", \"" + words + "\": ";
    }

    static void due(String call, long got, long want) {
        asked++;
        if (got != want) {
            wrong++;
            if (wrong <= 50) {
                System.out.println(sentence + call + " answered " + got + ", due is " + want);
            }
        }
    }

    /** An answer that is a FAULT, and what fault() tells then. */
    static void fault(RicherChange x, String call, long got, int fault) {
        due(call, got, -10 - fault);
        due("fault() after " + call, x.fault(), fault);
    }

    static void end() {
        System.out.println(asked + " answers, " + wrong + " not as due");
        if (wrong != 0) {
            System.exit(1);
        }
    }

    /** A new row with just this text. */
    static void write(RicherChange x, int sheet, int lane, String text) {
        x.sheet(sheet, lane, text.length());
        for (int i = 0; i < text.length(); i++) {
            x.put(sheet, i, text.charAt(i));
        }
    }

    static void row(RicherChange x, int sheet, int lane, int... cells) {
        x.sheet(sheet, lane, cells.length);
        for (int i = 0; i < cells.length; i++) {
            x.put(sheet, i, cells[i]);
        }
    }

    static int city(RicherChange x, String text) {
        write(x, 3, 0, text);
        return x.city(3, 0, 0, text.length());
    }

    static RicherChange of(String text) {
        RicherChange x = new RicherChange();
        int houses = city(x, text);
        due("city of " + text, houses, (text.length() - 1) / 4);
        return x;
    }
}
