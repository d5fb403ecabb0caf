/** Promise by promise: ordinary inputs, the edges that the document names, and wrong inputs. */
public final class PromisesTest {
    private static final int UNKNOWN = -1, OUTSIDE = -2, STATE = -3, FULL = -4, NONE = -9;
    private static final int NULL = -11, CAST = -12, INDEX = -13, SIZE = -14;
    private static final long LOST = Long.MIN_VALUE;
    private static final int MIN = Integer.MIN_VALUE, MAX = Integer.MAX_VALUE;
    private static int wrong = 0;

    public static void main(String[] args) {
        face();
        newObject();
        wellTexts();
        wellFaults();
        wellMakesAnew();
        ofPin();
        bend();
        rekey();
        wished();
        throwIn();
        fish();
        years();
        centuryTold();
        centuryWrong();
        centuryRefused();
        quiet();
        run();
        shape();
        layersWays();
        layersRefused();
        readingAndBack();
        bendsAndKinds();
        keys();
        odds();
        sheet();
        lose();
        put();
        cell();
        copy();
        tellAndTrace();
        splash();
        as();
        fault();
        many();
        System.out.println(wrong == 0 ? "PromisesTest: all as due" : "PromisesTest: " + wrong + " not as due");
        if (wrong != 0) {
            System.exit(1);
        }
    }

    private static void due(String call, long got, long want) {
        if (got != want) {
            wrong++;
            System.out.println(call + " answered " + got + ", due is " + want);
        }
    }

    /** Sheet 3 gets the numbers as a row of ints. */
    private static void row(WishPins x, int... numbers) {
        due("sheet for a row", x.sheet(3, 2, numbers.length), 1);
        for (int i = 0; i < numbers.length; i++) {
            due("put for a row", x.put(3, i, numbers[i]), 1);
        }
    }

    private static int text(WishPins x, String text) {
        int[] codes = new int[text.length()];
        for (int i = 0; i < codes.length; i++) {
            codes[i] = text.charAt(i);
        }
        row(x, codes);
        return x.well(3, 2, 0, codes.length);
    }

    private static WishPins made(String text) {
        WishPins x = new WishPins();
        due("well " + text, text(x, text), (text.length() - 3) / 4);
        return x;
    }

    private static void face() {
        due("UNKNOWN", WishPins.UNKNOWN, -1);
        due("OUTSIDE", WishPins.OUTSIDE, -2);
        due("STATE", WishPins.STATE, -3);
        due("FULL", WishPins.FULL, -4);
        due("NONE", WishPins.NONE, -9);
        due("LOST", WishPins.LOST, Long.MIN_VALUE);
    }

    private static void newObject() {
        WishPins x = new WishPins();
        for (int what = 0; what <= 4; what++) {
            due("many", x.many(what), 0);
        }
        due("trace", x.trace(), 0);
        due("fault", x.fault(), 0);
        for (int k = 0; k < 4; k++) {
            due("lose", x.lose(k), 0);
        }
        due("ofPin", x.ofPin(0, 0), UNKNOWN);
        due("bend", x.bend(0, 0), UNKNOWN);
        due("bends", x.bends(0), UNKNOWN);
        due("kinds", x.kinds(0), UNKNOWN);
        due("reading", x.reading(0, 0), UNKNOWN);
        due("tell", x.tell(0), UNKNOWN);
        due("splash", x.splash(0), UNKNOWN);
        due("as", x.as(0, 0), UNKNOWN);
        due("back 0", x.back(0), 0);
        due("back 1", x.back(1), OUTSIDE);
    }

    private static void wellTexts() {
        String full = "w55;p00;c99;d55;p11;c22;d33;p44;c66;d77";
        for (int n = 0; n <= full.length(); n++) {
            WishPins x = new WishPins();
            boolean ends = n >= 7 && n % 4 == 3;
            due("well of " + n, text(x, full.substring(0, n)), ends ? (n - 3) / 4 : -100 - n);
            due("many of " + n, x.many(0), ends ? (n - 3) / 4 : 0);
        }
        String[] bad = {"x", "w0", "w6", "w1/", "w16", "w1:", "w10,", "w10;x", "w10;P", "w10;p/", "w10;p:",
            "w10;p0/", "w10;p0:", "w10;p00p", "w10;p00;;", full + ";", full + "x"};
        for (String text : bad) {
            WishPins x = new WishPins();
            due("well " + text, text(x, text), -100 - (text.length() - 1));
            due("well " + text + " and more", text(x, text + ";p00"), -100 - (text.length() - 1));
            due("fault", x.fault(), 0);
        }
        WishPins x = new WishPins();
        row(x, 7, 119, 50, 51, 59, 112, 52, 49, 7);
        due("well in the midst", x.well(3, 2, 1, 7), 1);
        due("well up to the end", x.well(3, 2, 1, 8), -107);
        due("well at the end", x.well(3, 2, 9, 0), -100);
        row(x, 119 + 256, 50, 51);
        due("a code beyond a byte", x.well(3, 2, 0, 3), -100);
        due("a row of bytes", x.sheet(1, 0, 7), 1);
        int[] codes = {119 + 256, 50, 51, 59, 112, 52, 49 - 256};
        for (int i = 0; i < 7; i++) {
            x.put(1, i, codes[i]);
        }
        due("codes cut to bytes", x.well(1, 0, 0, 7), 1);
    }

    private static void wellFaults() {
        WishPins x = new WishPins();
        due("well UNKNOWN", x.well(-1, 9, -1, -1), UNKNOWN);
        due("well UNKNOWN", x.well(4, 0, 0, 0), UNKNOWN);
        due("well OUTSIDE", x.well(0, -1, -1, -1), OUTSIDE);
        due("well OUTSIDE", x.well(0, 3, 0, 0), OUTSIDE);
        for (int lane = 0; lane < 3; lane++) {
            due("well NULL", x.well(0, lane, -1, -1), NULL);
            due("fault", x.fault(), 1);
        }
        x.sheet(0, 1, 7);
        due("well CAST", x.well(0, 0, -1, -1), CAST);
        due("fault", x.fault(), 2);
        due("well CAST", x.well(0, 2, -1, -1), CAST);
        due("well SIZE", x.well(0, 1, -1, -1), SIZE);
        due("fault", x.fault(), 4);
        due("well SIZE", x.well(0, 1, 0, MIN), SIZE);
        int[][] beyond = {{-1, 0}, {8, 0}, {0, 8}, {7, 1}, {1, 7}, {MAX, MAX}, {MIN, 0}, {1, MAX}, {MAX, 1}};
        for (int[] at : beyond) {
            due("well INDEX", x.well(0, 1, at[0], at[1]), INDEX);
            due("fault", x.fault(), 3);
        }
        due("well at the end", x.well(0, 1, 7, 0), -100);
        due("fault", x.fault(), 0);
        due("many", x.many(0), 0);
    }

    private static void wellMakesAnew() {
        WishPins x = made("w23;p41;c20;d14;p02");
        due("YEAR of the topmost", x.many(3), 7);
        x.tell(0);
        x.reading(0, 5);
        x.years(50);
        due("well not taken", text(x, "w11;p00;"), -108);
        due("YEAR stays", x.many(3), 57);
        due("READINGS stay", x.many(4), 1);
        due("well taken", text(x, "w11;d93"), 1);
        due("SLOPE", x.many(1), 1);
        due("DRIFT", x.many(2), 1);
        due("YEAR", x.many(3), 3);
        due("READINGS", x.many(4), 0);
        due("TRACE stays", x.trace(), 1);
        due("SHEETS stay", x.cell(3, 3, 2), ';');
        due("kind", x.ofPin(0, 0), 2);
        due("others are gone", x.ofPin(1, 0), UNKNOWN);
    }

    private static void ofPin() {
        WishPins x = made("w52;p91;c92;d99");
        x.years(3);
        int[][] want = {{0, 9, 1, 9, 5, 14}, {1, 9, 3, 10, 2, 12}, {2, 9, 12, 20, 4, 3}};
        for (int k = 0; k < 3; k++) {
            for (int what = 0; what < 6; what++) {
                due("ofPin " + k + " " + what, x.ofPin(k, what), want[k][what]);
            }
            due("ofPin OUTSIDE", x.ofPin(k, -1), OUTSIDE);
            due("ofPin OUTSIDE", x.ofPin(k, 6), OUTSIDE);
        }
        due("ofPin UNKNOWN", x.ofPin(3, 6), UNKNOWN);
        due("ofPin UNKNOWN", x.ofPin(-1, 0), UNKNOWN);
    }

    private static void bend() {
        WishPins x = made("w23;p41;c20");
        x.reading(0, 5);
        due("bend", x.bend(0, 9), 4);
        due("BEND", x.ofPin(0, 1), 9);
        due("WISH", x.ofPin(0, 4), 3);
        due("READINGS stay", x.many(4), 1);
        due("bend to the same", x.bend(0, 9), 9);
        due("bend UNKNOWN", x.bend(2, 10), UNKNOWN);
        due("bend UNKNOWN", x.bend(-1, 0), UNKNOWN);
        due("bend OUTSIDE", x.bend(0, 10), OUTSIDE);
        due("bend OUTSIDE", x.bend(0, -1), OUTSIDE);
        due("BEND stays", x.ofPin(0, 1), 9);
        due("another stays", x.ofPin(1, 1), 2);
    }

    private static void rekey() {
        WishPins x = new WishPins();
        due("rekey STATE", x.rekey(0, 9), STATE);
        x = made("w23;p41;c20");
        x.reading(0, 5);
        due("rekey", x.rekey(5, 0), 23);
        due("SLOPE", x.many(1), 5);
        due("DRIFT", x.many(2), 0);
        due("WISH", x.ofPin(0, 4), 2);
        due("READINGS stay", x.many(4), 1);
        int[][] outside = {{0, 0}, {6, 0}, {1, -1}, {1, 6}, {MIN, 0}, {1, MAX}};
        for (int[] key : outside) {
            due("rekey OUTSIDE", x.rekey(key[0], key[1]), OUTSIDE);
        }
        due("rekey", x.rekey(1, 5), 50);
        due("rekey", x.rekey(1, 5), 15);
    }

    private static void wished() {
        WishPins x = new WishPins();
        due("wished STATE", x.wished(6), STATE);
        x = made("w10;p00;p10;c00;d20;p60;p50");
        int[] want = {1 | 8 | 16, 2 | 4, 0, 0, 0, 32};
        for (int v = 0; v < 6; v++) {
            due("wished " + v, x.wished(v), want[v]);
        }
        due("wished OUTSIDE", x.wished(-1), OUTSIDE);
        due("wished OUTSIDE", x.wished(6), OUTSIDE);
    }

    private static void throwIn() {
        WishPins x = new WishPins();
        due("throwIn OUTSIDE", x.throwIn(3, 0), OUTSIDE);
        due("throwIn STATE", x.throwIn(2, 9), STATE);
        x = made("w23;p41");
        x.reading(0, 5);
        x.years(4);
        due("throwIn", x.throwIn(2, 9), (2 * 20 + 3 * 5) % 6);
        due("number", x.many(0), 2);
        due("READINGS stay", x.many(4), 1);
        due("kind", x.ofPin(1, 0), 2);
        due("BEND", x.ofPin(1, 1), 9);
        due("YEAR", x.ofPin(1, 2), 5);
        due("throwIn", x.throwIn(1, 0), (2 * 1 + 3 * 5) % 6);
        int[][] outside = {{-1, 0}, {3, 0}, {0, -1}, {0, 10}};
        for (int[] pin : outside) {
            due("throwIn OUTSIDE", x.throwIn(pin[0], pin[1]), OUTSIDE);
        }
        for (int k = 3; k < 9; k++) {
            due("throwIn", x.throwIn(0, k), (2 * k + 15) % 6);
        }
        due("throwIn FULL", x.throwIn(0, 0), FULL);
        due("throwIn OUTSIDE", x.throwIn(0, 10), OUTSIDE);
        due("number", x.many(0), 9);
    }

    private static void fish() {
        WishPins x = new WishPins();
        due("fish STATE", x.fish(), STATE);
        x = made("w10;p10;p29;p39");
        x.years(5);
        x.reading(0, 1);
        x.reading(2, 3);
        due("fish", x.fish(), 3);
        due("PINS", x.many(0), 2);
        due("YEAR stays", x.many(3), 23);
        due("READINGS are taken back", x.many(4), 0);
        due("fished", x.ofPin(2, 0), UNKNOWN);
        due("fish", x.fish(), 2);
        x.reading(0, 1);
        due("fish STATE", x.fish(), STATE);
        due("READINGS stay", x.many(4), 1);
        due("PINS", x.many(0), 1);
    }

    private static void years() {
        WishPins x = new WishPins();
        due("years OUTSIDE", x.years(0), OUTSIDE);
        due("years STATE", x.years(1), STATE);
        x = made("w10;p19");
        due("years", x.years(1), 10);
        due("years", x.years(99), 109);
        due("years OUTSIDE", x.years(0), OUTSIDE);
        due("years OUTSIDE", x.years(100), OUTSIDE);
        due("years OUTSIDE", x.years(-1), OUTSIDE);
        due("YEAR", x.many(3), 109);
        for (int i = 0; i < 400; i++) {
            due("years", x.years(99), 109 + 99 * (i + 1));
        }
        due("throwIn late", x.throwIn(0, 3), 3);
        due("rekey", x.rekey(1, 5), 10);
        due("WISH of a late one", x.ofPin(1, 4), (3 + 5 * (109 + 99 * 400)) % 6);
    }

    private static void told(WishPins x, String name, int i, int n, int what, int want) {
        due("century " + name + " what " + what, x.century(3, 2, i, n, what), want);
    }

    private static void centuryTold() {
        WishPins x = made("w11;p10;p22");
        x.reading(0, 1);
        row(x, 2, 0, 99, 3, 9, 2, 0, 4, 0, 3, 5, 1);
        int[][] want = {
            {2, NONE, 0, 2, 1 << 1 | 1 << 4, 1, 4, NONE},
            {3, NONE, 1, 2, 1 << 1 | 1 << 4, 1, 4, 4},
            {3, NONE, 1, 101, 1 << 1 | 1 << 4, 1, 4, 4},
            {4, NONE, 1, 101, 1 << 1 | 1 << 4, 1, 4, 4},
            {3, NONE, 1, 101, 1 << 1 | 1 << 4, 1, 4, 4},
            {3, NONE, 1, 101, 1 << 1 | 1 << 4, 1, 4, 4},
            {4, NONE, 1, 101, 1 << 1 | 1 << 4 | 1 << 5, 1, 4, 4}};
        // acts: throw p2 (WISH 4, as below), 99 years, throw d9 (WISH (20 + 101) % 6 = 1), fish it, 0 years, throw c5
        for (int n = 0; n <= 6; n++) {
            for (int what = 0; what <= 4; what++) {
                told(x, "of " + n, 0, n, what, want[n][what]);
            }
            for (int k = 0; k < 3; k++) {
                told(x, "of " + n, 0, n, 10 + k, want[n][5 + k]);
            }
        }
        told(x, "topmost", 0, 3, 13, 1);
        told(x, "topmost", 0, 6, 13, (6 + 101) % 6);
        told(x, "none", 0, 6, 14, NONE);
        told(x, "none", 0, 6, 18, NONE);
        told(x, "of later ones", 10, 1, 13, NONE);
        told(x, "of later ones", 10, 1, 12, 2);
        due("nothing is changed: PINS", x.many(0), 2);
        due("nothing is changed: YEAR", x.many(3), 2);
        due("nothing is changed: READINGS", x.many(4), 1);
        row(x, 2, 0, 2, 0, 0, 4, 2, 0);
        told(x, "those fished out count too", 0, 4, 2, 3);
        int[] longest = new int[40];
        for (int i = 0; i < 20; i++) {
            longest[2 * i] = 99;
            longest[2 * i + 1] = 3;
        }
        row(x, longest);
        told(x, "of twenty", 0, 20, 3, 2 + 20 * 99);
        due("of twenty and one cell on", x.century(3, 2, 1, 20, 3), INDEX);
    }

    private static void centuryWrong() {
        WishPins x = made("w11;p10");
        row(x, 0, 4);
        told(x, "fishing the only one", 0, 1, 1, 0);
        for (int what : new int[] {0, 2, 3, 4, 10, 11, 18}) {
            told(x, "fishing the only one", 0, 1, what, -100);
        }
        due("fault", x.fault(), 0);
        row(x, 3, 0, 5, 3, 0, 4, 0, 4, 0, 4, 0, 0);
        told(x, "fishing one too many", 0, 6, 1, 3);
        told(x, "fishing one too many", 0, 6, 0, -103);
        told(x, "fishing none too many", 0, 3, 1, NONE);
        int[] acts = new int[20];
        row(x, acts);
        told(x, "throwing eight", 0, 8, 1, NONE);
        told(x, "throwing eight", 0, 8, 0, 9);
        told(x, "throwing eight", 0, 8, 18, 0);
        told(x, "throwing nine", 0, 9, 1, 8);
        told(x, "throwing ten", 0, 10, 4, -108);
        due("PINS stay", x.many(0), 1);
    }

    private static void centuryRefused() {
        WishPins x = new WishPins();
        due("century UNKNOWN", x.century(-1, 3, 0, 21, 5), UNKNOWN);
        due("century UNKNOWN", x.century(4, 0, 0, 0, 0), UNKNOWN);
        due("century OUTSIDE", x.century(0, 3, 0, 0, 0), OUTSIDE);
        due("century OUTSIDE", x.century(0, -1, 0, 0, 0), OUTSIDE);
        due("century OUTSIDE", x.century(0, 0, 0, -1, 0), OUTSIDE);
        due("century OUTSIDE", x.century(0, 0, 0, 21, 0), OUTSIDE);
        for (int what : new int[] {-1, 5, 9, 19, MIN, MAX}) {
            due("century OUTSIDE " + what, x.century(0, 0, 0, 0, what), OUTSIDE);
        }
        due("century STATE", x.century(0, 0, -1, 0, 18), STATE);
        x = made("w11;p10;p22");
        due("century NULL", x.century(0, 0, -1, 0, 0), NULL);
        due("fault", x.fault(), 1);
        row(x, 0, 3, 10, 0, -1, 2, 100, 3, -1, 3, 1, 4, 0, 5, 0, -1);
        due("century CAST", x.century(3, 0, -1, 1, 0), CAST);
        due("fault", x.fault(), 2);
        for (int i : new int[] {-1, 15, 16, 17, MIN, MAX}) {
            due("century INDEX " + i, x.century(3, 2, i, 1, 0), INDEX);
            due("fault", x.fault(), 3);
        }
        due("century INDEX", x.century(3, 2, 17, 0, 0), INDEX);
        due("century at the end", x.century(3, 2, 16, 0, 0), 2);
        due("fault", x.fault(), 0);
        due("century of 0 YEARS", x.century(3, 2, 0, 1, 3), 2);
        for (int act = 1; act < 8; act++) {
            due("century OUTSIDE at " + act, x.century(3, 2, 2 * act, 1, 1), OUTSIDE);
        }
        row(x, 0, 0, 10, 0);
        due("century OUTSIDE, the second pair", x.century(3, 2, 0, 2, 0), OUTSIDE);
        row(x, 0, 4, 0, 4, 0, 5);
        due("century looks at all pairs first", x.century(3, 2, 0, 3, 1), OUTSIDE);
        due("century without the last", x.century(3, 2, 0, 2, 1), 1);
    }

    private static void quiet() {
        WishPins x = new WishPins();
        due("quiet STATE", x.quiet(2), STATE);
        x = made("w10;p03;p05;p05;p04");
        due("quiet", x.quiet(0), 5);
        due("quiet, the first", x.quiet(1), 3);
        x.years(5);
        due("quiet, the first", x.quiet(1), 3);
        x.years(1);
        due("quiet till now", x.quiet(0), 6);
        due("quiet till now", x.quiet(1), 17);
        due("quiet OUTSIDE", x.quiet(2), OUTSIDE);
        due("quiet OUTSIDE", x.quiet(-1), OUTSIDE);
        x.fish();
        due("quiet after fishing", x.quiet(0), 10);
        due("quiet after fishing", x.quiet(1), 13);
        x = made("w10;p09;p01");
        due("quiet before the lowest", x.quiet(0), 9);
        due("quiet before the lowest", x.quiet(1), 0);
        x = made("w10;p00;p00");
        due("quiet of nothing", x.quiet(0), 0);
        due("quiet of nothing", x.quiet(1), 0);
    }

    private static void run() {
        WishPins x = new WishPins();
        due("run STATE", x.run(2), STATE);
        x = made("w10;p10;p20;p80;p30;p30;p40;c30;d10");
        due("run", x.run(0), 3);
        due("run", x.run(1), 5);
        x = made("w10;p10;p20;p80;p30;p30;p10");
        due("run, the first", x.run(0), 2);
        due("run, the first", x.run(1), 1);
        due("run OUTSIDE", x.run(-1), OUTSIDE);
        due("run OUTSIDE", x.run(2), OUTSIDE);
        x = made("w10;p10;p10;p20");
        due("run of the lowest", x.run(0), 2);
        due("run of the lowest", x.run(1), 0);
        x = made("w10;p10");
        due("run of one", x.run(0), 1);
        due("run of one", x.run(1), 0);
        x = made("w10;p60;p10;p00;p60");
        due("the same WISH, not side by side", x.run(0), 2);
        due("the same WISH, not side by side", x.run(1), 2);
    }

    private static void shape() {
        WishPins x = new WishPins();
        due("shape STATE", x.shape(3, 6), STATE);
        x = made("w10;p00");
        int[][] want = {{0, 1, 2, 3, 4, 5}, {5, 0, 1, 2, 3, 4}, {2, NONE, 0, NONE, 1, NONE}};
        for (int kind = 0; kind < 3; kind++) {
            for (int v = 0; v < 6; v++) {
                due("shape " + kind + " " + v, x.shape(kind, v), want[kind][v]);
            }
        }
        due("rekey", x.rekey(1, 1), 10);
        x.years(2);
        due("shape now", x.shape(0, 2), 0);
        due("shape now", x.shape(0, 1), 5);
        due("shape OUTSIDE", x.shape(-1, 0), OUTSIDE);
        due("shape OUTSIDE", x.shape(3, 0), OUTSIDE);
        due("shape OUTSIDE", x.shape(0, -1), OUTSIDE);
        due("shape OUTSIDE", x.shape(0, 6), OUTSIDE);
    }

    private static void layersDue(WishPins x, int ways, int... first) {
        due("layers ways", x.layers(3, 2, 0, -1), ways);
        for (int k = 0; k < 9; k++) {
            due("layers place " + k, x.layers(3, 2, 0, k), k < first.length ? first[k] : NONE);
        }
        due("layers ways, again", x.layers(3, 2, 0, -1), ways);
    }

    private static void layersWays() {
        WishPins x = made("w10;p10;p20;p10;p70;p20");
        row(x, 6, 6, 6, 6, 6);
        layersDue(x, 120, 0, 1, 2, 3, 4);
        row(x, 2, 1, 6, 6, 6);
        layersDue(x, 2 * 3 * 6, 1, 0, 2, 3, 4);
        row(x, 6, 1, 1, 1, 6);
        layersDue(x, 3 * 2 * 1 * 2, 1, 0, 2, 3, 4);
        row(x, 6, 6, 2, 2, 6);
        layersDue(x, 2 * 6, 0, 2, 1, 4, 3);
        row(x, 2, 2, 2, 6, 6);
        layersDue(x, 0);
        row(x, 3, 6, 6, 6, 6);
        layersDue(x, 0);
        x = made("w11;p00;p01;c01");
        row(x, 0, 1, 3);
        layersDue(x, 2, 0, 1, 2);
        row(x, 1, 6, 2);
        layersDue(x, 2, 2, 0, 1);
        row(x, 6, 6, 2);
        layersDue(x, 4, 0, 2, 1);
        row(x, 6, 5, 6);
        layersDue(x, 0);
        due("nothing is changed", x.ofPin(2, 0), 1);
        row(x, 6, 6, 6, 6);
        due("more cells than PINS", x.layers(3, 2, 1, -1), 6);
    }

    private static void layersRefused() {
        WishPins x = new WishPins();
        due("layers UNKNOWN", x.layers(4, 3, 0, 9), UNKNOWN);
        due("layers UNKNOWN", x.layers(-1, 0, 0, 0), UNKNOWN);
        due("layers OUTSIDE", x.layers(0, 3, 0, 0), OUTSIDE);
        due("layers OUTSIDE", x.layers(0, -1, 0, 0), OUTSIDE);
        due("layers OUTSIDE", x.layers(0, 0, 0, -2), OUTSIDE);
        due("layers OUTSIDE", x.layers(0, 0, 0, 9), OUTSIDE);
        due("layers STATE", x.layers(0, 0, -1, 0), STATE);
        x = made("w10;p10;p20");
        due("layers NULL", x.layers(0, 0, -1, 0), NULL);
        due("fault", x.fault(), 1);
        row(x, 6, 7, -1, 6, 5);
        due("layers CAST", x.layers(3, 1, -1, 0), CAST);
        due("fault", x.fault(), 2);
        for (int i : new int[] {-1, 4, 5, 6, MIN, MAX}) {
            due("layers INDEX", x.layers(3, 2, i, 8), INDEX);
            due("fault", x.fault(), 3);
        }
        due("layers OUTSIDE cell", x.layers(3, 2, 0, 8), OUTSIDE);
        due("fault", x.fault(), 0);
        due("layers OUTSIDE cell", x.layers(3, 2, 1, -1), OUTSIDE);
        due("layers OUTSIDE cell", x.layers(3, 2, 2, -1), OUTSIDE);
        due("layers", x.layers(3, 2, 3, -1), 0);
        row(x, 6, 6, 7);
        due("a cell behind them doesn't matter", x.layers(3, 2, 0, -1), 2);
    }

    private static void readingAndBack() {
        WishPins x = made("w10;p10;p20");
        due("reading UNKNOWN", x.reading(2, 6), UNKNOWN);
        due("reading UNKNOWN", x.reading(-1, 0), UNKNOWN);
        due("reading OUTSIDE", x.reading(0, 6), OUTSIDE);
        due("reading OUTSIDE", x.reading(0, -1), OUTSIDE);
        for (int number = 0; number < 8; number++) {
            due("reading", x.reading(number % 2, 1 + number % 2), number);
        }
        due("reading FULL", x.reading(0, 1), FULL);
        due("reading OUTSIDE", x.reading(0, 6), OUTSIDE);
        due("many", x.many(4), 8);
        due("back OUTSIDE", x.back(9), OUTSIDE);
        due("back OUTSIDE", x.back(-1), OUTSIDE);
        due("back", x.back(0), 8);
        due("back", x.back(3), 5);
        due("reading", x.reading(0, 0), 5);
        due("keys with one that is not so", x.bends(0), 0);
        due("back the last", x.back(1), 5);
        due("bends", x.bends(0), 1 << 1 | 1 << 7);
        due("back", x.back(5), 0);
        due("back OUTSIDE", x.back(1), OUTSIDE);
    }

    private static void bendsAndKinds() {
        WishPins x = made("w21;p31;c22;d30");
        due("bends of any", x.bends(0), 1023);
        due("kinds of any", x.kinds(0), 7);
        due("reading", x.reading(1, (2 * 3 + 3) % 6), 0);
        due("bends", x.bends(1), 1 << 2 | 1 << 5 | 1 << 8);
        due("kinds", x.kinds(1), 1 << 1 | 1 << 2);
        due("bends of another", x.bends(0), 1023);
        due("kinds of another", x.kinds(2), 7);
        due("reading", x.reading(2, 4), 1);
        due("bends with one that is not so", x.bends(1), 0);
        due("kinds with one that is not so", x.kinds(1), 0);
        due("bends of it", x.bends(2), 0);
        due("back", x.back(1), 1);
        due("reading", x.reading(2, 3), 1);
        due("bends of it: 2 * 2 * (b + 1) + 3 is 3", x.bends(2), 1 << 2 | 1 << 5 | 1 << 8);
        due("kinds of it: p 9, c 11, d 19", x.kinds(2), 1);
        due("back", x.back(1), 1);
        due("bends UNKNOWN", x.bends(3), UNKNOWN);
        due("bends UNKNOWN", x.bends(-1), UNKNOWN);
        due("kinds UNKNOWN", x.kinds(3), UNKNOWN);
        due("kinds UNKNOWN", x.kinds(-1), UNKNOWN);
        due("BEND stays", x.ofPin(1, 1), 2);
        due("kind stays", x.ofPin(1, 0), 1);
        due("bend to another", x.bend(1, 3), 2);
        due("a READING is of the WISH as it is then", x.bends(0), 0);
    }

    private static void keys() {
        WishPins x = new WishPins();
        due("keys STATE", x.keys(3), STATE);
        x = made("w23;p41;c20;d14");
        due("keys", x.keys(0), 30);
        due("keys", x.keys(1), 10);
        due("keys", x.keys(2), 55);
        // SLOPE s, DRIFT d: 4 s + d is 5 (6 parts): 11, 23, 35, 41, 53
        x.reading(0, 5);
        due("keys", x.keys(0), 5);
        due("keys", x.keys(1), 11);
        due("keys", x.keys(2), 53);
        due("rekey", x.rekey(1, 0), 23);
        due("the KEY that it is doesn't matter", x.keys(0), 5);
        x.reading(0, 4);
        due("keys", x.keys(0), 0);
        due("keys", x.keys(1), NONE);
        due("keys", x.keys(2), NONE);
        due("keys OUTSIDE", x.keys(-1), OUTSIDE);
        due("keys OUTSIDE", x.keys(3), OUTSIDE);
    }

    private static void odds() {
        WishPins x = new WishPins();
        due("odds STATE", x.odds(0, 0, 0), LOST);
        x = made("w10;p00");
        long[][] want = {{1, 5}, {1, 5}, {1, 5}, {1, 5}, {1, 10}, {1, 10}};
        for (int v = 0; v < 6; v++) {
            due("odds upper " + v, x.odds(0, v, 0), want[v][0]);
            due("odds lower " + v, x.odds(0, v, 1), want[v][1]);
        }
        due("odds 3 of 10", x.odds(2, 0, 0), 3);
        due("odds 3 of 10", x.odds(2, 0, 1), 10);
        due("odds 4 of 10", x.odds(2, 2, 0), 2);
        due("odds 4 of 10", x.odds(2, 2, 1), 5);
        due("odds none", x.odds(2, 1, 0), 0);
        due("odds none", x.odds(2, 1, 1), 1);
        x.rekey(3, 1);
        x.years(1);
        due("odds all", x.odds(2, 1, 0), 1);
        due("odds all", x.odds(2, 1, 1), 1);
        due("odds half", x.odds(0, 4, 0), 1);
        due("odds half", x.odds(0, 4, 1), 2);
        int[][] outside = {{-1, 0, 0}, {3, 0, 0}, {0, -1, 0}, {0, 6, 0}, {0, 0, -1}, {0, 0, 2}};
        for (int[] asked : outside) {
            due("odds OUTSIDE", x.odds(asked[0], asked[1], asked[2]), LOST);
        }
        x.put(0, 0, 0);
        x.odds(0, 0, 2);
        due("odds names no FAULTS", x.fault(), 1);
    }

    private static void sheet() {
        WishPins x = new WishPins();
        due("sheet UNKNOWN", x.sheet(-1, 3, 61), UNKNOWN);
        due("sheet UNKNOWN", x.sheet(4, 0, 0), UNKNOWN);
        due("sheet OUTSIDE", x.sheet(0, -1, -1), OUTSIDE);
        due("sheet OUTSIDE", x.sheet(0, 3, 1), OUTSIDE);
        due("sheet OUTSIDE", x.sheet(0, 0, 61), OUTSIDE);
        due("sheet OUTSIDE", x.sheet(0, 0, MAX), OUTSIDE);
        due("fault", x.fault(), 0);
        due("sheet SIZE", x.sheet(0, 0, -1), SIZE);
        due("fault", x.fault(), 4);
        due("sheet SIZE", x.sheet(0, 0, MIN), SIZE);
        due("it has nothing", x.lose(0), 0);
        due("sheet", x.sheet(0, 2, 60), 1);
        due("fault", x.fault(), 0);
        for (int i = 0; i < 60; i++) {
            due("cell is 0", x.cell(0, i, 2), 0);
        }
        due("put", x.put(0, 59, 7), 1);
        due("put", x.put(0, 0, 8), 1);
        due("put beyond", x.put(0, 60, 7), INDEX);
        due("a refused one changes nothing", x.sheet(0, 2, 61), OUTSIDE);
        due("cell stays", x.cell(0, 59, 2), 7);
        due("sheet anew", x.sheet(0, 2, 1), 1);
        due("cell is 0 anew", x.cell(0, 0, 2), 0);
        due("the row is shorter", x.cell(0, 1, 2), LOST);
        due("sheet anew", x.sheet(0, 1, 60), 1);
        due("cell is 0 anew", x.cell(0, 59, 1), 0);
        due("sheet of nothing is a row", x.sheet(0, 0, 0), 1);
        due("it has no cell", x.put(0, 0, 1), INDEX);
        due("it has no cell", x.cell(0, 0, 0), LOST);
        due("fault", x.fault(), 3);
        due("lose", x.lose(0), 1);
    }

    private static void lose() {
        WishPins x = new WishPins();
        due("lose UNKNOWN", x.lose(-1), UNKNOWN);
        due("lose UNKNOWN", x.lose(4), UNKNOWN);
        due("sheet", x.sheet(3, 0, 2), 1);
        due("put", x.put(3, 2, 1), INDEX);
        due("lose", x.lose(3), 1);
        due("lose names no FAULTS", x.fault(), 3);
        due("lose nothing", x.lose(3), 0);
        due("put to nothing", x.put(3, 0, 1), NULL);
        due("cell of nothing", x.cell(3, 0, 1), LOST);
        due("fault", x.fault(), 1);
    }

    private static void put() {
        WishPins x = new WishPins();
        due("put UNKNOWN", x.put(-1, 0, 0), UNKNOWN);
        due("put UNKNOWN", x.put(4, 0, 0), UNKNOWN);
        due("put NULL", x.put(0, -1, 0), NULL);
        due("fault", x.fault(), 1);
        x.sheet(0, 0, 3);
        x.sheet(1, 1, 3);
        x.sheet(2, 2, 3);
        int[] numbers = {0, 1, -1, 127, 128, 255, 256, -128, -129, 32767, 32768, 65535, 65536, -32769, 70001, MIN, MAX};
        for (int v : numbers) {
            for (int k = 0; k < 3; k++) {
                due("put", x.put(k, 1, v), 1);
                due("cell of " + v, x.cell(k, 1, k), k == 0 ? (byte) v : k == 1 ? (short) v : v);
            }
        }
        for (int i : new int[] {-1, 3, MIN, MAX}) {
            due("put INDEX", x.put(0, i, 0), INDEX);
            due("fault", x.fault(), 3);
        }
        due("put the last", x.put(0, 2, 5), 1);
        due("fault", x.fault(), 0);
        due("others stay", x.cell(0, 0, 0), 0);
    }

    private static void cell() {
        WishPins x = new WishPins();
        due("cell NULL", x.cell(0, -1, 2), LOST);
        due("fault", x.fault(), 1);
        due("cell UNKNOWN", x.cell(4, 0, 3), LOST);
        due("fault", x.fault(), 0);
        due("cell NULL", x.cell(0, -1, 2), LOST);
        due("cell UNKNOWN", x.cell(-1, 0, 0), LOST);
        due("fault", x.fault(), 0);
        x.sheet(0, 1, 2);
        x.put(0, 1, -7);
        for (int lane : new int[] {0, 2}) {
            due("cell CAST", x.cell(0, -1, lane), LOST);
            due("fault", x.fault(), 2);
        }
        for (int lane : new int[] {-1, 3}) {
            due("cell OUTSIDE", x.cell(0, 0, lane), LOST);
            due("fault", x.fault(), 0);
        }
        for (int i : new int[] {-1, 2, MIN, MAX}) {
            due("cell INDEX", x.cell(0, i, 1), LOST);
            due("fault", x.fault(), 3);
        }
        due("cell", x.cell(0, 1, 1), -7);
        due("fault", x.fault(), 0);
    }

    private static void cells(WishPins x, int k, int... want) {
        for (int i = 0; i < want.length; i++) {
            due("cell " + i + " of sheet " + k, x.cell(k, i, 2), want[i]);
        }
    }

    private static void copy() {
        WishPins x = new WishPins();
        due("copy UNKNOWN", x.copy(4, 0, 0, 0, 0), UNKNOWN);
        due("copy UNKNOWN", x.copy(0, 0, -1, 0, 0), UNKNOWN);
        due("copy NULL", x.copy(0, -1, 1, -1, -1), NULL);
        row(x, 1, 2, 3, 4, 5);
        due("copy NULL, the other", x.copy(3, -1, 1, -1, -1), NULL);
        due("copy NULL, the first", x.copy(1, -1, 3, -1, -1), NULL);
        due("fault", x.fault(), 1);
        x.sheet(1, 1, 5);
        due("copy CAST", x.copy(3, -1, 1, -1, -1), CAST);
        due("fault", x.fault(), 2);
        x.sheet(2, 2, 3);
        int[][] beyond = {{-1, 0, 0}, {0, -1, 0}, {0, 0, -1}, {6, 0, 0}, {0, 4, 0}, {3, 0, 3}, {0, 1, 3}, {0, 0, 4},
            {MAX, 0, 1}, {0, MAX, 1}, {1, 1, MAX}, {MIN, 0, 0}, {0, 0, MIN}};
        for (int[] at : beyond) {
            due("copy INDEX", x.copy(3, at[0], 2, at[1], at[2]), INDEX);
            due("fault", x.fault(), 3);
        }
        cells(x, 2, 0, 0, 0);
        due("copy of none at the ends", x.copy(3, 5, 2, 3, 0), 0);
        due("fault", x.fault(), 0);
        due("copy", x.copy(3, 3, 2, 1, 2), 2);
        cells(x, 2, 0, 4, 5);
        cells(x, 3, 1, 2, 3, 4, 5);
        due("copy upwards", x.copy(3, 0, 3, 1, 4), 4);
        cells(x, 3, 1, 1, 2, 3, 4);
        due("copy downwards", x.copy(3, 1, 3, 0, 4), 4);
        cells(x, 3, 1, 2, 3, 4, 4);
    }

    private static void tellAndTrace() {
        WishPins x = made("w10;p70;c70;d70");
        due("tell PLAIN", x.tell(0), 7);
        due("trace", x.trace(), 1);
        due("tell CROOK", x.tell(1), 107);
        due("trace", x.trace(), (31 + 2) * 31 + 1);
        due("tell DOUBLE", x.tell(2), 114);
        int trace = 1024;
        for (int body : new int[] {3, 2, 1, 1}) {
            trace = 31 * trace + body;
        }
        due("trace", x.trace(), trace);
        due("tell UNKNOWN", x.tell(3), UNKNOWN);
        due("tell UNKNOWN", x.tell(-1), UNKNOWN);
        due("trace stays", x.trace(), trace);
    }

    private static void splash() {
        WishPins x = made("w10;p70;c70;d70;c10");
        int[] want = {0, 1, 50, 3};
        int[] body = {4, 4, 5, 4};
        int trace = 0;
        for (int k = 0; k < 4; k++) {
            due("splash", x.splash(k), want[k]);
            trace = 31 * trace + body[k];
            due("trace", x.trace(), trace);
        }
        due("splash UNKNOWN", x.splash(4), UNKNOWN);
        due("splash UNKNOWN", x.splash(-1), UNKNOWN);
        due("trace stays", x.trace(), trace);
    }

    private static void as() {
        WishPins x = made("w10;p70;c70;d70");
        for (int k = 0; k < 3; k++) {
            for (int kind = 0; kind < 3; kind++) {
                due("as", x.as(k, kind), kind <= k ? 1 : CAST);
                due("fault", x.fault(), kind <= k ? 0 : 2);
            }
            due("as OUTSIDE", x.as(k, -1), OUTSIDE);
            due("as OUTSIDE", x.as(k, 3), OUTSIDE);
        }
        due("as UNKNOWN", x.as(3, 3), UNKNOWN);
        due("as UNKNOWN", x.as(-1, 0), UNKNOWN);
    }

    private static void fault() {
        WishPins x = made("w10;p70;p10");
        String[] calls = {"well", "century", "layers", "sheet", "put", "cell", "copy", "as"};
        for (int call = 0; call < calls.length; call++) {
            due("put", x.put(3, -1, 0), INDEX);
            refusedThatNamesFaults(x, call);
            due("fault, " + calls[call] + " refused", x.fault(), 0);
        }
        due("put", x.put(3, -1, 0), INDEX);
        x.ofPin(0, 0);
        x.bend(0, 1);
        x.rekey(1, 0);
        x.wished(0);
        x.throwIn(0, 0);
        x.fish();
        x.years(1);
        x.quiet(0);
        x.run(0);
        x.shape(0, 0);
        x.reading(0, 0);
        x.back(1);
        x.bends(0);
        x.kinds(0);
        x.keys(0);
        x.odds(0, 0, 0);
        x.lose(0);
        x.tell(0);
        x.splash(0);
        x.trace();
        x.fault();
        x.many(0);
        due("fault is kept by calls that name none", x.fault(), 3);
    }

    private static void refusedThatNamesFaults(WishPins x, int call) {
        switch (call) {
            case 0:
                x.well(4, 0, 0, 0);
                break;
            case 1:
                x.century(3, 3, 0, 0, 0);
                break;
            case 2:
                x.layers(3, 2, 0, 9);
                break;
            case 3:
                x.sheet(0, 0, 61);
                break;
            case 4:
                x.put(4, 0, 0);
                break;
            case 5:
                x.cell(3, 0, 3);
                break;
            case 6:
                x.copy(3, 0, 4, 0, 0);
                break;
            default:
                x.as(2, 0);
                break;
        }
    }

    private static void many() {
        WishPins x = made("w45;p19;c20");
        x.reading(0, 1);
        int[] want = {2, 4, 5, 9, 1};
        for (int what = 0; what < 5; what++) {
            due("many " + what, x.many(what), want[what]);
        }
        for (int what : new int[] {-1, 5, MIN, MAX}) {
            due("many OUTSIDE", x.many(what), OUTSIDE);
        }
    }
}
