import java.io.IOException;
import java.nio.file.Files;
import java.nio.file.Path;
import java.util.function.Supplier;
import java.util.function.ToLongFunction;

/**
 * Each sentence of ../shared/DOC.md that names a boundary case (too small, too large, empty, full, a wrap-around,
 * a refused call), with a test of its own, which names the promise and the sentence's words.
 */
public final class EdgesTest {
    private static final int UNKNOWN = -1, OUTSIDE = -2, STATE = -3, FULL = -4, NONE = -9;
    private static final int NULL = 1, CAST = 2, INDEX = 3, SIZE = 4;
    private static final long LOST = Long.MIN_VALUE;
    private static final int MIN = Integer.MIN_VALUE, MAX = Integer.MAX_VALUE;
    /** What fault() is to be behind a call: as it was, as the call names no FAULTS; or 0, as it names some. */
    private static final int KEPT = -1, NO_FAULT = 0;
    private static final String ORDER = "of several the first in the order in which a call's line tells them";
    private static final String NO_CELLS = "of cells from i on also where i is not 0 .. how many there are,"
        + " if none of them is taken, too";

    private static String document = "";
    private static String edge = "";
    private static int edges = 0;
    private static int wrongEdges = 0;
    private static int wrong = 0;
    private static final boolean[] hasEdge = new boolean[32];

    public static void main(String[] args) throws IOException {
        Path doc = Path.of("..", "shared", "DOC.md");
        document = Files.exists(doc) ? Files.readString(doc) : "";
        edgesOfTexts();
        edgesOfTheWell();
        edgesOfWhatIsThrown();
        edgesOfCenturies();
        edgesOfWhatWasWanted();
        edgesOfLayers();
        edgesOfReadings();
        edgesOfSheets();
        edgesOfCopy();
        edgesOfParts();
        for (int promise = 1; promise <= 31; promise++) {
            if (!hasEdge[promise]) {
                wrongEdges++;
                System.out.println("WRONG: promise " + promise + " has no test here");
            }
        }
        System.out.println("EdgesTest: " + edges + " sentences, " + wrongEdges + " don't hold");
        if (wrongEdges != 0) {
            System.exit(1);
        }
    }

    // ---- how a sentence is tested

    /** Runs the test of a sentence. Its words must stand under the promise, or ahead of the promises. */
    private static void edge(int promise, String words, Runnable test) {
        edge = "Promise " + promise + ", \"" + words + "\"";
        edges++;
        hasEdge[promise] = true;
        wrong = 0;
        if (!document.isEmpty() && !stands(promise, words)) {
            wrong++;
            System.out.println("  the document doesn't say so");
        }
        try {
            test.run();
        } catch (RuntimeException | StackOverflowError thrown) {
            wrong++;
            System.out.println("  a call threw " + thrown);
        }
        System.out.println((wrong == 0 ? "holds: " : "WRONG: ") + edge);
        if (wrong != 0) {
            wrongEdges++;
        }
    }

    private static boolean stands(int promise, String words) {
        int first = document.indexOf("## Promise 1:");
        int from = document.indexOf("## Promise " + promise + ":");
        int till = document.indexOf("\n## ", from);
        return document.substring(0, first).contains(words) || document.substring(from, till).contains(words);
    }

    private static void due(String call, long got, long want) {
        if (got != want) {
            wrong++;
            System.out.println("  " + edge + ": " + call + " answered " + got + ", due is " + want);
        }
    }

    /**
     * Asks one object, and looks whether it is as another one that was made alike and not asked.
     * Ahead of it the object comes to a FAULT that the call does not, so that one sees what fault() becomes.
     */
    private static void leaves(Supplier<WishPins> made, String call, ToLongFunction<WishPins> asked, long answer,
            int faultThen) {
        WishPins x = made.get();
        int before = faultThen == INDEX ? CAST : INDEX;
        due("(a FAULT ahead)", x.cell(3, -1, before == INDEX ? 2 : 0), LOST);
        due("(a FAULT ahead)", x.fault(), before);
        due(call, asked.applyAsLong(x), answer);
        due(call + ", fault()", x.fault(), faultThen == KEPT ? before : faultThen);
        String picture = picture(x);
        String asMade = picture(made.get());
        if (!picture.equals(asMade)) {
            wrong++;
            System.out.println("  " + edge + ": " + call + " changed\n    " + asMade + "\n    " + picture);
        }
    }

    /** Comes to a FAULT: it answers -10 less it, and changes nothing. */
    private static void fails(Supplier<WishPins> made, String call, ToLongFunction<WishPins> asked, int fault) {
        leaves(made, call, asked, -10 - fault, fault);
    }

    /** All that can be seen of an object but fault(). It is used up then: its READINGS are taken back. */
    private static String picture(WishPins x) {
        StringBuilder seen = new StringBuilder("many");
        for (int what = 0; what <= 4; what++) {
            seen.append(' ').append(x.many(what));
        }
        seen.append(" trace ").append(x.trace()).append(" pins");
        for (int k = 0; k < x.many(0); k++) {
            seen.append(' ').append(x.ofPin(k, 0)).append(',').append(x.ofPin(k, 1)).append(',').append(x.ofPin(k, 2));
        }
        for (int k = 0; k < 4; k++) {
            seen.append(" sheet ").append(k);
            for (int lane = 0; lane < 3; lane++) {
                x.cell(k, -1, lane);
                boolean own = x.fault() == INDEX;
                seen.append(own ? " lane " + lane : x.fault() == NULL ? " nothing" : "");
                for (int i = 0; own && i < 60; i++) {
                    long cell = x.cell(k, i, lane);
                    own = cell != LOST;
                    seen.append(own ? " " + cell : "");
                }
            }
        }
        for (int r = x.many(4); r > 0; r--) {
            seen.append(" readings ").append(x.keys(0)).append(' ').append(x.keys(1)).append(' ').append(x.keys(2));
            for (int k = 0; k < x.many(0); k++) {
                seen.append(' ').append(x.bends(k)).append(',').append(x.kinds(k));
            }
            x.back(1);
        }
        return seen.toString();
    }

    private static void row(WishPins x, int k, int lane, int... numbers) {
        due("(sheet for a row)", x.sheet(k, lane, numbers.length), 1);
        for (int i = 0; i < numbers.length; i++) {
            due("(put for a row)", x.put(k, i, numbers[i]), 1);
        }
    }

    /** SHEET 0 has nothing; the others have the same row as bytes, shorts, ints: a CENTURY, or LAYERS of 4 to 6. */
    private static void rows(WishPins x) {
        for (int lane = 0; lane < 3; lane++) {
            row(x, 1 + lane, lane, 4, 0, 5, 3, 0, 4);
        }
    }

    private static int[] codes(String text) {
        int[] codes = new int[text.length()];
        for (int i = 0; i < codes.length; i++) {
            codes[i] = text.charAt(i);
        }
        return codes;
    }

    /** What well answers to a TEXT that SHEET 3 gets as ints. */
    private static int text(WishPins x, int... codes) {
        row(x, 3, 2, codes);
        return x.well(3, 2, 0, codes.length);
    }

    private static int text(WishPins x, String text) {
        return text(x, codes(text));
    }

    private static WishPins made(String text) {
        WishPins x = new WishPins();
        due("(well " + text + ")", text(x, text), (text.length() - 3) / 4);
        return x;
    }

    /** There is no WELL. */
    private static WishPins dry() {
        WishPins x = new WishPins();
        rows(x);
        return x;
    }

    /** Four PINS with WISHES 5, 3, 5, 3; YEAR 12; two READINGS that are so. */
    private static WishPins wet() {
        WishPins x = made("w23;p41;c20;d14;p02");
        x.years(5);
        x.tell(2);
        x.reading(0, 5);
        x.reading(1, 3);
        rows(x);
        return x;
    }

    /** Nine PINS, eight READINGS. */
    private static WishPins full() {
        WishPins x = made("w11;p01;p11;p21;c31;c41;c51;d61;d71;d81");
        x.splash(8);
        for (int r = 0; r < 8; r++) {
            x.reading(r, x.ofPin(r, 4));
        }
        rows(x);
        return x;
    }

    /** One PIN alone, and a READING. */
    private static WishPins single() {
        WishPins x = made("w10;p10");
        x.reading(0, 1);
        rows(x);
        return x;
    }

    /** A WELL by a TEXT of nine PINS, the code at a place in it being another one. */
    private static void codeAt(int place, int code, int answer) {
        int[] codes = codes("w33;p11;c22;d33;p44;c55;d66;p77;c88;d33");
        codes[place] = code;
        due("code " + code + " at place " + place, text(new WishPins(), codes), answer);
    }

    // ---- 1 TEXTS

    private static void edgesOfTexts() {
        edge(1, "No WELL (no PINS)", EdgesTest::newHasNoWell);
        edge(1, "SHEETS have nothing", EdgesTest::newHasNoRows);
        edge(2, "WELL by a TEXT: w", EdgesTest::textBeginsWithW);
        edge(2, "a digit 1 .. 5 (SLOPE)", EdgesTest::textSlope);
        edge(2, "a digit 0 .. 5 (DRIFT)", EdgesTest::textDrift);
        edge(2, "then 1 to 9 PINS", EdgesTest::textPins);
        edge(2, "each: ;", EdgesTest::textSemicolons);
        edge(2, "and a letter", EdgesTest::textLetters);
        edge(2, "a digit 0 .. 9 (BEND)", () -> textDigits(2));
        edge(2, "a digit 0 .. 9 (GAP: how many YEARS behind the one below it it was thrown", EdgesTest::textGaps);
        edge(2, "the lowest one behind YEAR 0", EdgesTest::textLowestGap);
        edge(2, "numbered from 0 on, the lowest first", EdgesTest::textNumbers);
        edge(2, "the place (from 0 on) of the first code with which no TEXT goes on", EdgesTest::textFirstFault);
        edge(2, "(the ; of a tenth PIN)", EdgesTest::textTenthPin);
        edge(2, "how many codes there are, if it just ends too soon", EdgesTest::textEndsTooSoon);
        edge(2, "A TEXT that is taken makes all anew, but for SHEETS and TRACE", EdgesTest::textMakesAnew);
        edge(2, "it is the YEAR in which the topmost PIN was thrown", EdgesTest::textYear);
        edge(2, "no READINGS", EdgesTest::textNoReadings);
        edge(2, "WELL by a TEXT of n cells of a SHEET from i on", EdgesTest::textInTheMidst);
        edge(2, "taken as a row of a LANE", EdgesTest::textOfLanes);
        edge(2, "UNKNOWN", EdgesTest::wellUnknown);
        edge(2, "OUTSIDE: lane", EdgesTest::wellOutside);
        edge(2, "CAST (nothing is no CAST)", EdgesTest::wellCast);
        edge(2, "NULL", EdgesTest::wellNull);
        edge(2, "SIZE: n below 0", EdgesTest::wellSize);
        edge(2, "INDEX", EdgesTest::wellIndex);
        edge(2, NO_CELLS, EdgesTest::wellIndexOfNone);
        edge(2, "-100 less it", EdgesTest::wellNotTaken);
        edge(2, ORDER, EdgesTest::wellOrder);
    }

    private static void newHasNoWell() {
        WishPins x = new WishPins();
        for (int k = 0; k < 9; k++) {
            due("ofPin " + k, x.ofPin(k, 0), UNKNOWN);
        }
        due("many", x.many(0), 0);
        due("wished", x.wished(0), STATE);
        due("fish", x.fish(), STATE);
        due("throwIn", x.throwIn(0, 0), STATE);
    }

    private static void newHasNoRows() {
        WishPins x = new WishPins();
        for (int k = 0; k < 4; k++) {
            due("cell of " + k, x.cell(k, 0, 2), LOST);
            due("fault", x.fault(), NULL);
            due("lose " + k, x.lose(k), 0);
        }
    }

    private static void textBeginsWithW() {
        codeAt(0, 119, 9);
        for (int code : new int[] {118, 120, 87, 59, 48, 0, -119, 119 + 256, 119 + 65536, MIN, MAX}) {
            codeAt(0, code, -100);
        }
    }

    private static void textSlope() {
        for (int slope = 1; slope <= 5; slope++) {
            codeAt(1, 48 + slope, 9);
            due("SLOPE", made("w" + slope + "0;p00").many(1), slope);
        }
        for (int code : new int[] {48, 54, 47, 57, 58, 1, 5, 0, -49, 49 + 256, MIN, MAX}) {
            codeAt(1, code, -101);
        }
    }

    private static void textDrift() {
        for (int drift = 0; drift <= 5; drift++) {
            codeAt(2, 48 + drift, 9);
            due("DRIFT", made("w1" + drift + ";p00").many(2), drift);
        }
        for (int code : new int[] {47, 54, 57, 59, 0, 5, -48, 48 + 256, MIN, MAX}) {
            codeAt(2, code, -102);
        }
    }

    private static void textPins() {
        due("no PIN", text(new WishPins(), "w10"), -103);
        String text = "w10";
        for (int pins = 1; pins <= 9; pins++) {
            text += ";p00";
            WishPins x = new WishPins();
            due(pins + " PINS", text(x, text), pins);
            due("many of " + pins, x.many(0), pins);
        }
        due("ten PINS", text(new WishPins(), text + ";p00"), -139);
    }

    private static void textSemicolons() {
        for (int pin = 0; pin < 9; pin++) {
            int place = 3 + 4 * pin;
            codeAt(place, 59, 9);
            for (int code : new int[] {58, 60, 112, 48, 0, -59, 59 + 256, MIN, MAX}) {
                codeAt(place, code, -100 - place);
            }
        }
    }

    private static void textLetters() {
        for (int pin = 0; pin < 9; pin++) {
            int place = 4 + 4 * pin;
            for (int code : new int[] {112, 99, 100}) {
                codeAt(place, code, 9);
            }
            for (int code : new int[] {111, 113, 98, 101, 80, 67, 68, 48, 59, 0, -112, 112 + 256, MIN, MAX}) {
                codeAt(place, code, -100 - place);
            }
        }
        WishPins x = made("w10;p00;c00;d00");
        for (int kind = 0; kind < 3; kind++) {
            due("kind", x.ofPin(kind, 0), kind);
        }
    }

    private static void textDigits(int behindSemicolon) {
        for (int pin = 0; pin < 9; pin++) {
            int place = 3 + 4 * pin + behindSemicolon;
            for (int code : new int[] {48, 49, 56, 57}) {
                codeAt(place, code, 9);
            }
            for (int code : new int[] {47, 58, 59, 0, 9, -48, 48 + 256, MIN, MAX}) {
                codeAt(place, code, -100 - place);
            }
        }
        for (int digit = 0; digit <= 9; digit++) {
            due("BEND", made("w10;c" + digit + "0").ofPin(0, 1), digit);
        }
    }

    private static void textGaps() {
        textDigits(3);
        WishPins x = made("w10;p05;p00;p09;p01");
        int[] years = {5, 5, 14, 15};
        for (int k = 0; k < 4; k++) {
            due("YEAR of " + k, x.ofPin(k, 2), years[k]);
        }
    }

    private static void textLowestGap() {
        for (int gap = 0; gap <= 9; gap++) {
            due("YEAR of the lowest", made("w10;p0" + gap).ofPin(0, 2), gap);
        }
    }

    private static void textNumbers() {
        WishPins x = made("w10;p00;p10;p20;p30;p40;p50;p60;p70;p80");
        for (int k = 0; k < 9; k++) {
            due("BEND of " + k, x.ofPin(k, 1), k);
        }
        due("behind the last", x.ofPin(9, 1), UNKNOWN);
        due("ahead of the first", x.ofPin(-1, 1), UNKNOWN);
    }

    private static void textFirstFault() {
        String text = "w10;p00;c00";
        for (int place = 0; place < text.length(); place++) {
            String begun = text.substring(0, place);
            due("wrong from " + place + " on", text(new WishPins(), begun + "x".repeat(12 - place)), -100 - place);
            due("wrong at the last, " + place, text(new WishPins(), begun + "x"), -100 - place);
            due("wrong at " + place + " alone", text(new WishPins(), begun + "x" + text.substring(place + 1)),
                -100 - place);
        }
    }

    private static void textTenthPin() {
        String nine = "w10" + ";p00".repeat(9);
        due("nine", text(new WishPins(), nine), 9);
        due("the ;", text(new WishPins(), nine + ";"), -139);
        due("another code", text(new WishPins(), nine + "p"), -139);
        due("the ; and more", text(new WishPins(), nine + ";p0"), -139);
        due("fourteen", text(new WishPins(), nine + ";p00".repeat(5)), -139);
    }

    private static void textEndsTooSoon() {
        String text = "w10" + ";p00".repeat(9);
        for (int n = 0; n < text.length(); n++) {
            boolean whole = n >= 7 && n % 4 == 3;
            due(n + " codes", text(new WishPins(), text.substring(0, n)), whole ? (n - 3) / 4 : -100 - n);
        }
    }

    private static void textMakesAnew() {
        WishPins x = wet();
        int trace = x.trace();
        int[] codes = codes("w51;d93");
        row(x, 0, 1, codes);
        due("well", x.well(0, 1, 0, codes.length), 1);
        int[] many = {1, 5, 1, 3, 0};
        for (int what = 0; what < 5; what++) {
            due("many " + what, x.many(what), many[what]);
        }
        due("kind", x.ofPin(0, 0), 2);
        due("BEND", x.ofPin(0, 1), 9);
        due("the second PIN", x.ofPin(1, 0), UNKNOWN);
        due("TRACE", x.trace(), trace);
        due("cell of bytes", x.cell(1, 0, 0), 4);
        due("cell of shorts", x.cell(2, 2, 1), 5);
        due("cell of ints", x.cell(3, 3, 2), 3);
        due("cell of the TEXT", x.cell(0, 0, 1), 119);
    }

    private static void textYear() {
        WishPins x = made("w10;p00");
        due("YEAR 0", x.many(3), 0);
        x.years(99);
        due("well anew", text(x, "w10;p09;p08"), 2);
        due("YEAR", x.many(3), 17);
        due("YEARS ago", x.ofPin(1, 5), 0);
        due("well anew", text(x, "w10" + ";p09".repeat(9)), 9);
        due("the greatest YEAR", x.many(3), 81);
    }

    private static void textNoReadings() {
        WishPins x = full();
        due("READINGS ahead", x.many(4), 8);
        due("well anew", text(x, "w10;p00"), 1);
        due("READINGS", x.many(4), 0);
        due("back", x.back(1), OUTSIDE);
        due("BENDS", x.bends(0), 1023);
        due("a READING", x.reading(0, 5), 0);
    }

    private static void textInTheMidst() {
        WishPins x = new WishPins();
        row(x, 3, 2, codes("w1w20;p10;c20"));
        due("up to the last cell", x.well(3, 2, 2, 11), 2);
        due("but the last PIN", x.well(3, 2, 2, 7), 1);
        due("from the first cell on", x.well(3, 2, 0, 13), -102);
        due("one cell less", x.well(3, 2, 2, 10), -110);
        due("behind the last cell", x.well(3, 2, 13, 0), -100);
    }

    private static void textOfLanes() {
        for (int lane = 0; lane < 3; lane++) {
            WishPins x = new WishPins();
            row(x, 0, lane, codes("w10;p00"));
            due("lane " + lane, x.well(0, lane, 0, 7), 1);
        }
        int[] large = codes("w10;p00");
        large[0] += 256;
        for (int lane = 0; lane < 3; lane++) {
            WishPins x = new WishPins();
            row(x, 0, lane, large);
            due("256 more, lane " + lane, x.well(0, lane, 0, 7), lane == 0 ? 1 : -100);
        }
        large[0] += 65536 - 256;
        for (int lane = 0; lane < 3; lane++) {
            WishPins x = new WishPins();
            row(x, 0, lane, large);
            due("65536 more, lane " + lane, x.well(0, lane, 0, 7), lane < 2 ? 1 : -100);
        }
    }

    private static void wellUnknown() {
        for (int k : new int[] {-1, 4, MIN, MAX}) {
            leaves(EdgesTest::wet, "SHEET " + k, x -> x.well(k, 2, 0, 6), UNKNOWN, NO_FAULT);
        }
    }

    private static void wellOutside() {
        for (int lane : new int[] {-1, 3, MIN, MAX}) {
            leaves(EdgesTest::wet, "lane " + lane, x -> x.well(3, lane, 0, 6), OUTSIDE, NO_FAULT);
        }
    }

    private static void wellCast() {
        for (int k = 1; k <= 3; k++) {
            int sheet = k;
            for (int lane = 0; lane < 3; lane++) {
                int asked = lane;
                if (lane != k - 1) {
                    fails(EdgesTest::wet, "lane " + lane + " of " + k, x -> x.well(sheet, asked, 0, 6), CAST);
                }
                fails(EdgesTest::wet, "lane " + lane + " of nothing", x -> x.well(0, asked, 0, 6), NULL);
            }
        }
    }

    private static void wellNull() {
        fails(EdgesTest::wet, "nothing", x -> x.well(0, 0, 0, 0), NULL);
        fails(EdgesTest::dry, "nothing", x -> x.well(0, 2, 0, 7), NULL);
    }

    private static void wellSize() {
        for (int n : new int[] {-1, -100, MIN}) {
            fails(EdgesTest::wet, "n " + n, x -> x.well(3, 2, 0, n), SIZE);
        }
        due("n 0", wet().well(3, 2, 0, 0), -100);
    }

    private static void wellIndex() {
        int[][] beyond = {{-1, 1}, {0, 7}, {1, 6}, {5, 2}, {6, 1}, {MAX, 1}, {MAX, MAX}, {1, MAX}, {MIN, 1},
            {MIN, MAX}};
        for (int[] at : beyond) {
            fails(EdgesTest::wet, "i " + at[0] + ", n " + at[1], x -> x.well(3, 2, at[0], at[1]), INDEX);
        }
        due("the last cell", wet().well(3, 2, 5, 1), -100);
        due("all cells", wet().well(3, 2, 0, 6), -100);
    }

    private static void wellIndexOfNone() {
        for (int i : new int[] {-1, 7, MIN, MAX}) {
            fails(EdgesTest::wet, "none from " + i, x -> x.well(3, 2, i, 0), INDEX);
        }
        for (int i = 0; i <= 6; i++) {
            due("none from " + i, wet().well(3, 2, i, 0), -100);
        }
        WishPins x = new WishPins();
        x.sheet(0, 0, 0);
        due("none of none", x.well(0, 0, 0, 0), -100);
        due("none of none, from 1", x.well(0, 0, 1, 0), -13);
    }

    private static void wellNotTaken() {
        leaves(EdgesTest::wet, "a TEXT that is none", x -> x.well(3, 2, 0, 6), -100, NO_FAULT);
        leaves(EdgesTest::dry, "a TEXT that is none", x -> x.well(3, 2, 0, 6), -100, NO_FAULT);
        Supplier<WishPins> withText = () -> {
            WishPins x = wet();
            row(x, 3, 2, codes("w55;d99;d99"));
            return x;
        };
        for (int n : new int[] {0, 1, 2, 3, 4, 5, 6, 8, 9, 10}) {
            leaves(withText, "too short, " + n, x -> x.well(3, 2, 0, n), -100 - n, NO_FAULT);
        }
        leaves(withText, "of the second PIN", x -> x.well(3, 2, 7, 4), -100, NO_FAULT);
    }

    private static void wellOrder() {
        leaves(EdgesTest::dry, "all wrong", x -> x.well(4, 3, -1, -1), UNKNOWN, NO_FAULT);
        leaves(EdgesTest::dry, "but the SHEET", x -> x.well(0, 3, -1, -1), OUTSIDE, NO_FAULT);
        fails(EdgesTest::dry, "CAST, SIZE, INDEX", x -> x.well(1, 1, -1, -1), CAST);
        fails(EdgesTest::dry, "NULL, SIZE, INDEX", x -> x.well(0, 1, -1, -1), NULL);
        fails(EdgesTest::dry, "SIZE, INDEX", x -> x.well(1, 0, -1, -1), SIZE);
        fails(EdgesTest::dry, "INDEX", x -> x.well(1, 0, -1, 0), INDEX);
    }

    // ---- 1 the well

    private static void edgesOfTheWell() {
        edge(3, "UNKNOWN; OUTSIDE", EdgesTest::ofPinUnknown);
        edge(3, "OUTSIDE", EdgesTest::ofPinOutside);
        edge(3, "5 how many YEARS ago it was THROWN", EdgesTest::ofPinYearsAgo);
        edge(3, "of a PLAIN one BEND; of a CROOK 1 more; of a DOUBLE twice what a CROOK's is", EdgesTest::ofPinTurn);
        edge(3, "what is left of SLOPE times TURN and DRIFT times YEAR, together, by 6 (0 .. 5)", EdgesTest::ofPinWish);
        edge(4, "UNKNOWN", EdgesTest::bendUnknown);
        edge(4, "BEND of a PIN becomes v (0 .. 9)", EdgesTest::bendOutside);
        edge(4, "what it was", EdgesTest::bendWas);
        edge(4, ORDER, () -> leaves(EdgesTest::wet, "PIN, v", x -> x.bend(4, 10), UNKNOWN, KEPT));
        edge(5, "STATE: there is no WELL", () -> leaves(EdgesTest::dry, "no WELL", x -> x.rekey(1, 0), STATE, KEPT));
        edge(5, "OUTSIDE: slope (1 .. 5)", EdgesTest::rekeySlope);
        edge(5, "drift (0 .. 5)", EdgesTest::rekeyDrift);
        edge(5, "as they were", EdgesTest::rekeyWas);
        edge(5, ORDER, () -> leaves(EdgesTest::dry, "WELL, KEY", x -> x.rekey(0, 6), STATE, KEPT));
        edge(6, "STATE: there is no WELL", () -> leaves(EdgesTest::dry, "no WELL", x -> x.wished(0), STATE, KEPT));
        edge(6, "PINS with WISH v (0 .. 5)", EdgesTest::wishedOutside);
        edge(6, "Sets are told as bits (bit k for number k)", EdgesTest::wishedBits);
        edge(6, ORDER, () -> leaves(EdgesTest::dry, "WELL, v", x -> x.wished(6), STATE, KEPT));
    }

    private static void ofPinUnknown() {
        for (int k : new int[] {-1, 4, 9, MIN, MAX}) {
            for (int what : new int[] {-1, 0, 5, 6}) {
                leaves(EdgesTest::wet, "PIN " + k + " what " + what, x -> x.ofPin(k, what), UNKNOWN, KEPT);
            }
        }
        leaves(EdgesTest::dry, "no PINS", x -> x.ofPin(0, 0), UNKNOWN, KEPT);
        leaves(EdgesTest::full, "the tenth", x -> x.ofPin(9, 0), UNKNOWN, KEPT);
        WishPins x = wet();
        x.fish();
        due("the one that was fished out", x.ofPin(3, 0), UNKNOWN);
        due("the topmost", x.ofPin(2, 0), 2);
    }

    private static void ofPinOutside() {
        for (int what : new int[] {-1, 6, MIN, MAX}) {
            leaves(EdgesTest::wet, "what " + what, x -> x.ofPin(0, what), OUTSIDE, KEPT);
            leaves(EdgesTest::wet, "what " + what, x -> x.ofPin(3, what), OUTSIDE, KEPT);
        }
    }

    private static void ofPinYearsAgo() {
        WishPins x = made("w10;p05;p03");
        due("the topmost at once", x.ofPin(1, 5), 0);
        due("the one below it", x.ofPin(0, 5), 3);
        x.years(99);
        due("99 YEARS on", x.ofPin(1, 5), 99);
        due("the YEAR in which it was THROWN stays", x.ofPin(1, 2), 8);
        x.throwIn(0, 0);
        due("one that is THROWN now", x.ofPin(2, 5), 0);
    }

    private static void ofPinTurn() {
        int[][] turns = {{0, 9}, {1, 10}, {2, 20}};
        for (int kind = 0; kind < 3; kind++) {
            WishPins x = made("w10;" + "pcd".charAt(kind) + "00");
            due("TURN of BEND 0, kind " + kind, x.ofPin(0, 3), turns[kind][0]);
            x.bend(0, 9);
            due("TURN of BEND 9, kind " + kind, x.ofPin(0, 3), turns[kind][1]);
        }
    }

    private static void ofPinWish() {
        WishPins x = made("w10;p00");
        for (int bend = 0; bend <= 9; bend++) {
            x.bend(0, bend);
            due("WISH of BEND " + bend, x.ofPin(0, 4), bend % 6);
        }
        x = made("w55;p50");
        due("25 by 6", x.ofPin(0, 4), 1);
        x.years(99);
        due("THROWN in YEAR 99: 5 times 20 and 5 times 99", x.throwIn(2, 9), 595 % 6);
        due("its WISH", x.ofPin(1, 4), 1);
    }

    private static void bendUnknown() {
        for (int k : new int[] {-1, 4, 9, MIN, MAX}) {
            leaves(EdgesTest::wet, "PIN " + k, x -> x.bend(k, 0), UNKNOWN, KEPT);
        }
        leaves(EdgesTest::dry, "no PINS", x -> x.bend(0, 0), UNKNOWN, KEPT);
    }

    private static void bendOutside() {
        for (int v : new int[] {-1, 10, MIN, MAX}) {
            leaves(EdgesTest::wet, "v " + v, x -> x.bend(0, v), OUTSIDE, KEPT);
        }
        WishPins x = wet();
        due("v 0", x.bend(3, 0), 0);
        due("v 9", x.bend(3, 9), 0);
        due("BEND", x.ofPin(3, 1), 9);
    }

    private static void bendWas() {
        WishPins x = full();
        for (int k = 0; k < 9; k++) {
            due("BEND of " + k, x.bend(k, 9 - k), k);
        }
        for (int k = 0; k < 9; k++) {
            due("BEND of " + k, x.bend(k, 9 - k), 9 - k);
        }
        due("READINGS", x.many(4), 8);
    }

    private static void rekeySlope() {
        for (int slope : new int[] {0, 6, -1, MIN, MAX}) {
            leaves(EdgesTest::wet, "slope " + slope, x -> x.rekey(slope, 0), OUTSIDE, KEPT);
        }
        WishPins x = wet();
        due("slope 1", x.rekey(1, 3), 23);
        due("slope 5", x.rekey(5, 3), 13);
        due("SLOPE", x.many(1), 5);
    }

    private static void rekeyDrift() {
        for (int drift : new int[] {-1, 6, MIN, MAX}) {
            leaves(EdgesTest::wet, "drift " + drift, x -> x.rekey(1, drift), OUTSIDE, KEPT);
        }
        WishPins x = wet();
        due("drift 0", x.rekey(2, 0), 23);
        due("drift 5", x.rekey(2, 5), 20);
        due("DRIFT", x.many(2), 5);
    }

    private static void rekeyWas() {
        WishPins x = wet();
        int before = 23;
        for (int slope = 1; slope <= 5; slope++) {
            for (int drift = 0; drift <= 5; drift++) {
                due("rekey to " + slope + ", " + drift, x.rekey(slope, drift), before);
                before = 10 * slope + drift;
            }
        }
        due("to the same", x.rekey(5, 5), 55);
        due("READINGS", x.many(4), 2);
    }

    private static void wishedOutside() {
        for (int v : new int[] {-1, 6, MIN, MAX}) {
            leaves(EdgesTest::wet, "v " + v, x -> x.wished(v), OUTSIDE, KEPT);
        }
        WishPins x = made("w10;p00;p50");
        due("v 0", x.wished(0), 1);
        due("v 5", x.wished(5), 2);
        due("none", x.wished(3), 0);
    }

    private static void wishedBits() {
        WishPins x = made("w10;p00;p00;p00;p00;p00;p00;p00;p00;p00");
        due("all nine", x.wished(0), 511);
        due("none", x.wished(1), 0);
        x.bend(0, 1);
        x.bend(8, 1);
        due("the lowest and the topmost", x.wished(1), 1 | 256);
        due("all between", x.wished(0), 254);
    }

    // ---- 2 what is thrown

    private static void edgesOfWhatIsThrown() {
        edge(7, "OUTSIDE: kind (0 .. 2)", EdgesTest::throwInKind);
        edge(7, "bend (0 .. 9)", EdgesTest::throwInBend);
        edge(7, "STATE: there is no WELL",
            () -> leaves(EdgesTest::dry, "no WELL", x -> x.throwIn(0, 0), STATE, KEPT));
        edge(7, "FULL: there are nine", EdgesTest::throwInFull);
        edge(7, "it is the topmost, of the YEAR that it is", EdgesTest::throwInNow);
        edge(7, ORDER, EdgesTest::throwInOrder);
        edge(8, "STATE: there is no WELL", () -> leaves(EdgesTest::dry, "no WELL", WishPins::fish, STATE, KEPT));
        edge(8, "there is but one", EdgesTest::fishTheOnlyOne);
        edge(8, "The topmost is FISHED out, if it is not the only one", EdgesTest::fishTheTopmost);
        edge(8, "all READINGS are taken back then", EdgesTest::fishReadings);
        edge(9, "n YEARS (1 .. 99) go by", EdgesTest::yearsOutside);
        edge(9, "STATE: there is no WELL", () -> leaves(EdgesTest::dry, "no WELL", x -> x.years(1), STATE, KEPT));
        edge(9, ORDER, () -> leaves(EdgesTest::dry, "n, WELL", x -> x.years(0), OUTSIDE, KEPT));
        edge(9, "An object is used for at most 512 calls after it has been made", EdgesTest::yearsToTheLastCall);
    }

    private static void throwInKind() {
        for (int kind : new int[] {-1, 3, MIN, MAX}) {
            leaves(EdgesTest::wet, "kind " + kind, x -> x.throwIn(kind, 0), OUTSIDE, KEPT);
        }
        WishPins x = made("w10;p00");
        due("kind 0", x.throwIn(0, 2), 2);
        due("kind 1", x.throwIn(1, 2), 3);
        due("kind 2", x.throwIn(2, 2), 0);
        due("kind", x.ofPin(3, 0), 2);
    }

    private static void throwInBend() {
        for (int bend : new int[] {-1, 10, MIN, MAX}) {
            leaves(EdgesTest::wet, "bend " + bend, x -> x.throwIn(0, bend), OUTSIDE, KEPT);
        }
        WishPins x = made("w10;p10");
        due("bend 0", x.throwIn(0, 0), 0);
        due("bend 9", x.throwIn(0, 9), 3);
        due("BEND", x.ofPin(2, 1), 9);
    }

    private static void throwInFull() {
        leaves(EdgesTest::full, "the tenth", x -> x.throwIn(2, 9), FULL, KEPT);
        WishPins x = made("w10;p00");
        for (int pins = 2; pins <= 9; pins++) {
            due("PIN number " + pins, x.throwIn(0, 1), 1);
            due("PINS", x.many(0), pins);
        }
        due("the tenth", x.throwIn(0, 1), FULL);
        due("fish", x.fish(), 1);
        due("there is room again", x.throwIn(0, 2), 2);
        due("FULL again", x.throwIn(0, 2), FULL);
    }

    private static void throwInNow() {
        WishPins x = wet();
        due("throwIn", x.throwIn(1, 6), (2 * 7 + 3 * 12) % 6);
        due("its number is the last", x.many(0), 5);
        due("its YEAR", x.ofPin(4, 2), 12);
        due("the one below it", x.ofPin(3, 2), 7);
        due("YEAR", x.many(3), 12);
        due("READINGS stay", x.many(4), 2);
    }

    private static void throwInOrder() {
        leaves(EdgesTest::dry, "kind, WELL", x -> x.throwIn(3, 0), OUTSIDE, KEPT);
        leaves(EdgesTest::dry, "bend, WELL", x -> x.throwIn(0, 10), OUTSIDE, KEPT);
        leaves(EdgesTest::full, "kind, FULL", x -> x.throwIn(-1, 0), OUTSIDE, KEPT);
        leaves(EdgesTest::full, "bend, FULL", x -> x.throwIn(0, -1), OUTSIDE, KEPT);
    }

    private static void fishTheOnlyOne() {
        leaves(EdgesTest::single, "the only one", WishPins::fish, STATE, KEPT);
        WishPins x = single();
        x.throwIn(0, 2);
        due("one of two", x.fish(), 2);
        due("the last one", x.fish(), STATE);
        due("PINS", x.many(0), 1);
    }

    private static void fishTheTopmost() {
        WishPins x = full();
        for (int pins = 9; pins > 1; pins--) {
            int wish = x.ofPin(pins - 1, 4);
            due("fish of " + pins, x.fish(), wish);
            due("PINS", x.many(0), pins - 1);
            due("it is gone", x.ofPin(pins - 1, 0), UNKNOWN);
            due("the one below it stays", x.ofPin(pins - 2, 1), pins - 2);
        }
        due("the only one", x.fish(), STATE);
        due("YEAR stays", x.many(3), 9);
    }

    private static void fishReadings() {
        WishPins x = full();
        due("READINGS ahead", x.many(4), 8);
        x.fish();
        due("READINGS, also those of others", x.many(4), 0);
        due("BENDS", x.bends(0), 1023);
        x = single();
        x.fish();
        due("READINGS when it is refused", x.many(4), 1);
    }

    private static void yearsOutside() {
        for (int n : new int[] {0, -1, 100, MIN, MAX}) {
            leaves(EdgesTest::wet, "n " + n, x -> x.years(n), OUTSIDE, KEPT);
        }
        WishPins x = wet();
        due("n 1", x.years(1), 13);
        due("n 99", x.years(99), 112);
        due("YEAR", x.many(3), 112);
        due("READINGS stay", x.many(4), 2);
    }

    private static void yearsToTheLastCall() {
        WishPins x = made("w10;p00");
        // a row of 7 cells, and the WELL: 9 calls
        for (int call = 10; call <= 511; call++) {
            due("call " + call, x.years(99), 99 * (call - 9));
        }
        due("call 512", x.many(3), 99 * 502);
    }

    // ---- 2 centuries

    private static void edgesOfCenturies() {
        edge(10, "UNKNOWN: SHEET", EdgesTest::centuryUnknown);
        edge(10, "OUTSIDE: lane", EdgesTest::centuryLane);
        edge(10, "n (0 .. 20)", EdgesTest::centuryPairs);
        edge(10, "what (0 .. 4, 10 .. 18)", EdgesTest::centuryWhat);
        edge(10, "STATE: there is no WELL",
            () -> leaves(EdgesTest::dry, "no WELL", x -> x.century(3, 2, 0, 3, 0), STATE, NO_FAULT));
        edge(10, "CAST", EdgesTest::centuryCast);
        edge(10, "NULL", EdgesTest::centuryNull);
        edge(10, "INDEX", EdgesTest::centuryIndex);
        edge(10, NO_CELLS, EdgesTest::centuryIndexOfNone);
        edge(10, "that are cells of a SHEET from i on (2 n)", EdgesTest::centuryCells);
        edge(10, "OUTSIDE: the second is none of 0 .. 4", EdgesTest::centurySecond);
        edge(10, "or the first is not as told", EdgesTest::centuryFirst);
        edge(10, "(all of them, ahead of any act)", EdgesTest::centuryAllPairs);
        edge(10, "0 .. 9 and 0 .. 2: a PIN with that BEND, of that kind is THROWN", EdgesTest::centuryThrows);
        edge(10, "0 .. 99 and 3: so many YEARS go by", EdgesTest::centuryYears);
        edge(10, "0 and 4: the topmost is FISHED out", EdgesTest::centuryFishes);
        edge(10, "from how all is now (nothing is changed)", EdgesTest::centuryChangesNothing);
        edge(10, "its FIRST WRONG (1; NONE)", EdgesTest::centuryFirstWrong);
        edge(10, "FIRST WRONG: the first act that can't be", EdgesTest::centuryCantBe);
        edge(10, "the same WISH as the one that was below them then had (2)", EdgesTest::centuryLikeBelow);
        edge(10, "of all WISHES that PINS have then, as a set (4)", EdgesTest::centuryWishes);
        edge(10, "WISH of PIN k then (10 and k; NONE: there is no such one)", EdgesTest::centuryPinThen);
        edge(10, "of one with a FIRST WRONG: -100 less that (but what 1)", EdgesTest::centuryOfWrong);
        edge(10, ORDER, EdgesTest::centuryOrder);
    }

    /** The pairs come to SHEET 3 as a row of ints; each WHAT is asked, and nothing else is changed. */
    private static long told(WishPins x, int what, int... pairs) {
        row(x, 3, 2, pairs);
        return x.century(3, 2, 0, pairs.length / 2, what);
    }

    private static int[] times(int n, int first, int second) {
        int[] pairs = new int[2 * n];
        for (int i = 0; i < n; i++) {
            pairs[2 * i] = first;
            pairs[2 * i + 1] = second;
        }
        return pairs;
    }

    private static void centuryUnknown() {
        for (int k : new int[] {-1, 4, MIN, MAX}) {
            leaves(EdgesTest::wet, "SHEET " + k, x -> x.century(k, 2, 0, 3, 0), UNKNOWN, NO_FAULT);
        }
    }

    private static void centuryLane() {
        for (int lane : new int[] {-1, 3, MIN, MAX}) {
            leaves(EdgesTest::wet, "lane " + lane, x -> x.century(3, lane, 0, 3, 0), OUTSIDE, NO_FAULT);
        }
        for (int lane = 0; lane < 3; lane++) {
            due("lane " + lane, wet().century(1 + lane, lane, 0, 3, 0), 4);
        }
    }

    private static void centuryPairs() {
        for (int n : new int[] {-1, 21, 30, MIN, MAX, 1 << 30, (1 << 31) + 1}) {
            leaves(EdgesTest::wet, "n " + n, x -> x.century(3, 2, 0, n, 0), OUTSIDE, NO_FAULT);
        }
        leaves(EdgesTest::wet, "no pairs", x -> x.century(3, 2, 0, 0, 0), 4, NO_FAULT);
        leaves(EdgesTest::wet, "no pairs", x -> x.century(3, 2, 0, 0, 1), NONE, NO_FAULT);
        leaves(EdgesTest::wet, "no pairs", x -> x.century(3, 2, 0, 0, 2), 0, NO_FAULT);
        leaves(EdgesTest::wet, "no pairs", x -> x.century(3, 2, 0, 0, 3), 12, NO_FAULT);
        WishPins x = wet();
        due("twenty", told(x, 3, times(20, 99, 3)), 12 + 20 * 99);
        row(x, 3, 2, times(21, 1, 3));
        due("twenty-one that are there", x.century(3, 2, 0, 21, 3), OUTSIDE);
        due("twenty of them", x.century(3, 2, 2, 20, 3), 32);
    }

    private static void centuryWhat() {
        for (int what : new int[] {-1, 5, 6, 9, 19, 20, MIN, MAX}) {
            leaves(EdgesTest::wet, "what " + what, x -> x.century(3, 2, 0, 3, what), OUTSIDE, NO_FAULT);
        }
        long[] answers = {4, NONE, 0, 17, 1 << 5 | 1 << 3};
        for (int what = 0; what <= 4; what++) {
            int asked = what;
            leaves(EdgesTest::wet, "what " + what, x -> x.century(3, 2, 0, 3, asked), answers[what], NO_FAULT);
        }
        long[] wishes = {5, 3, 5, 3, NONE, NONE, NONE, NONE, NONE};
        for (int k = 0; k < 9; k++) {
            int asked = 10 + k;
            leaves(EdgesTest::wet, "what " + asked, x -> x.century(3, 2, 0, 3, asked), wishes[k], NO_FAULT);
        }
    }

    private static void centuryCast() {
        for (int lane = 0; lane < 2; lane++) {
            int asked = lane;
            fails(EdgesTest::wet, "ints as lane " + lane, x -> x.century(3, asked, 0, 3, 0), CAST);
            fails(EdgesTest::wet, "none of them", x -> x.century(3, asked, 0, 0, 0), CAST);
        }
        fails(EdgesTest::wet, "bytes as ints", x -> x.century(1, 2, 0, 3, 0), CAST);
        fails(EdgesTest::wet, "shorts as bytes", x -> x.century(2, 0, 0, 3, 0), CAST);
    }

    private static void centuryNull() {
        for (int lane = 0; lane < 3; lane++) {
            int asked = lane;
            fails(EdgesTest::wet, "nothing, lane " + lane, x -> x.century(0, asked, 0, 3, 0), NULL);
            fails(EdgesTest::wet, "none of nothing", x -> x.century(0, asked, 0, 0, 0), NULL);
        }
    }

    private static void centuryIndex() {
        int[][] beyond = {{-1, 1}, {0, 4}, {1, 3}, {2, 3}, {5, 1}, {6, 1}, {-1, 3}, {MAX, 1}, {MAX - 1, 20}, {MIN, 1}};
        for (int[] at : beyond) {
            fails(EdgesTest::wet, "i " + at[0] + ", n " + at[1], x -> x.century(3, 2, at[0], at[1], 3), INDEX);
        }
        WishPins x = wet();
        due("up to the last cell", x.century(3, 2, 4, 1, 0), 3);
        due("up to the last cell", x.century(3, 2, 2, 2, 3), 17);
    }

    private static void centuryIndexOfNone() {
        for (int i : new int[] {-1, 7, MIN, MAX}) {
            fails(EdgesTest::wet, "none from " + i, x -> x.century(3, 2, i, 0, 0), INDEX);
        }
        for (int i = 0; i <= 6; i++) {
            int from = i;
            leaves(EdgesTest::wet, "none from " + i, x -> x.century(3, 2, from, 0, 0), 4, NO_FAULT);
        }
    }

    private static void centuryCells() {
        WishPins x = made("w10;p00");
        row(x, 3, 2, 9, 9, 3, 3, 4, 0, 5);
        due("from an even cell on", x.century(3, 2, 2, 2, 0), 2);
        due("from an odd cell on", x.century(3, 2, 3, 1, 0), OUTSIDE);
        due("from an odd cell on", x.century(3, 2, 5, 1, 0), OUTSIDE);
        due("the cells behind don't matter", x.century(3, 2, 2, 1, 3), 3);
        due("the cells ahead do", x.century(3, 2, 0, 1, 3), OUTSIDE);
        due("half a pair", x.century(3, 2, 6, 1, 0), -13);
        due("half a pair", x.century(3, 2, 2, 3, 0), -13);
        row(x, 3, 2, 0, 0, 0, 4);
        due("the PIN with BEND, then kind", told(x, 11, 5, 1), 0);
        due("the PIN with BEND, then kind", told(x, 11, 1, 2), 4);
    }

    private static void centurySecond() {
        for (int second : new int[] {-1, 5, 6, 9, 256, 65536, MIN, MAX}) {
            WishPins x = wet();
            due("second " + second, told(x, 0, 0, second), OUTSIDE);
            due("fault", x.fault(), 0);
            due("second " + second + ", what 1", told(x, 1, 0, second), OUTSIDE);
        }
        for (int second = 0; second <= 4; second++) {
            due("second " + second, told(wet(), 1, 0, second), NONE);
        }
    }

    private static void centuryFirst() {
        int[] greatest = {9, 9, 9, 99, 0};
        for (int second = 0; second <= 4; second++) {
            for (int first : new int[] {-1, greatest[second] + 1, 100, 256, 65536, MIN, MAX}) {
                WishPins x = wet();
                due(first + " and " + second, told(x, 0, first, second), OUTSIDE);
                due("fault", x.fault(), 0);
            }
            due("0 and " + second, told(wet(), 1, 0, second), NONE);
            due(greatest[second] + " and " + second, told(wet(), 1, greatest[second], second), NONE);
        }
    }

    private static void centuryAllPairs() {
        Supplier<WishPins> wrongEnd = () -> {
            WishPins x = single();
            row(x, 3, 2, 0, 4, 0, 4, 10, 0);
            return x;
        };
        leaves(wrongEnd, "a pair behind one that can't be", x -> x.century(3, 2, 0, 3, 0), OUTSIDE, NO_FAULT);
        leaves(wrongEnd, "and its FIRST WRONG", x -> x.century(3, 2, 0, 3, 1), OUTSIDE, NO_FAULT);
        leaves(wrongEnd, "without it", x -> x.century(3, 2, 0, 2, 1), 0, NO_FAULT);
        int[] pairs = times(20, 1, 3);
        pairs[39] = 5;
        due("the twentieth", told(wet(), 3, pairs), OUTSIDE);
    }

    private static void centuryThrows() {
        for (int kind = 0; kind <= 2; kind++) {
            for (int bend : new int[] {0, 9}) {
                WishPins x = wet();
                int turn = kind == 0 ? bend : kind == 1 ? bend + 1 : 2 * bend + 2;
                due("PINS", told(x, 0, 1, 3, bend, kind), 5);
                due("WISH of kind " + kind + ", BEND " + bend, told(x, 14, 1, 3, bend, kind), (2 * turn + 3 * 13) % 6);
            }
        }
    }

    private static void centuryYears() {
        WishPins x = wet();
        due("0 YEARS", told(x, 3, 0, 3), 12);
        due("0 YEARS can be", told(x, 1, 0, 3), NONE);
        due("99 YEARS", told(x, 3, 99, 3), 111);
        due("100 YEARS", told(x, 3, 100, 3), OUTSIDE);
    }

    private static void centuryFishes() {
        WishPins x = wet();
        due("one", told(x, 0, 0, 4), 3);
        due("three", told(x, 0, 0, 4, 0, 4, 0, 4), 1);
        due("the lowest stays", told(x, 10, 0, 4, 0, 4, 0, 4), 5);
        due("the others don't", told(x, 11, 0, 4, 0, 4, 0, 4), NONE);
        due("the YEAR stays", told(x, 3, 0, 4, 0, 4, 0, 4), 12);
        due("1 and 4", told(x, 0, 1, 4), OUTSIDE);
    }

    private static void centuryChangesNothing() {
        int[][] told = {times(5, 9, 2), times(20, 99, 3), times(3, 0, 4), times(4, 0, 4), times(6, 0, 0)};
        for (int[] pairs : told) {
            Supplier<WishPins> withPairs = () -> {
                WishPins x = wet();
                row(x, 3, 2, pairs);
                return x;
            };
            int n = pairs.length / 2;
            long firstWrong = pairs[1] == 0 ? 5 : pairs[1] == 4 && n == 4 ? 3 : NONE;
            leaves(withPairs, n + " times " + pairs[0] + " and " + pairs[1], x -> x.century(3, 2, 0, n, 1), firstWrong,
                NO_FAULT);
        }
        WishPins x = wet();
        due("told", told(x, 0, 3, 0), 5);
        due("told again, from how all is now", told(x, 0, 3, 0), 5);
        x.throwIn(0, 0);
        x.years(4);
        due("told later", told(x, 0, 3, 0), 6);
        due("told later", told(x, 3, 3, 0), 16);
        x.rekey(1, 0);
        due("told by the KEY that is now", told(x, 15, 3, 0), 3);
    }

    private static void centuryFirstWrong() {
        WishPins x = single();
        due("none of none", told(x, 1), NONE);
        due("none", told(x, 1, 0, 0), NONE);
        due("the first act is 0", told(x, 1, 0, 4), 0);
        due("the second is 1", told(x, 1, 0, 3, 0, 4), 1);
        int[] pairs = times(20, 1, 3);
        pairs[38] = 0;
        pairs[39] = 4;
        due("the last is 19", told(x, 1, pairs), 19);
        due("the last is 19", told(x, 0, pairs), -119);
    }

    private static void centuryCantBe() {
        WishPins x = single();
        due("FISHED out, the only one", told(x, 1, 0, 4), 0);
        due("FISHED out, one of two", told(x, 1, 0, 0, 0, 4), NONE);
        due("FISHED out, then the only one", told(x, 1, 0, 0, 0, 4, 0, 4), 2);
        due("eight more", told(x, 1, times(8, 0, 0)), NONE);
        due("nine more", told(x, 1, times(9, 0, 0)), 8);
        due("the first of several", told(x, 1, times(20, 0, 0)), 8);
        due("the first of several", told(x, 1, 0, 4, 0, 4), 0);
        x = full();
        due("a tenth", told(x, 1, 0, 0), 0);
        due("a ninth again", told(x, 1, 0, 4, 0, 0), NONE);
        due("a tenth again", told(x, 1, 0, 4, 0, 0, 0, 0), 2);
    }

    private static void centuryLikeBelow() {
        WishPins x = single();
        due("none is THROWN", told(x, 2, 5, 3), 0);
        due("like the one that lay there", told(x, 2, 1, 0), 1);
        due("unlike it", told(x, 2, 2, 0), 0);
        due("like one by another kind and BEND", told(x, 2, 7, 0, 0, 1, 6, 1), 3);
        due("like one that is FISHED out", told(x, 2, 2, 0, 2, 0, 0, 4, 2, 0), 2);
        due("FISHED out itself", told(x, 2, 1, 0, 0, 4), 1);
        due("like the one below then, not the one above", told(x, 2, 2, 0, 0, 4, 1, 0), 1);
        due("those that lay there don't count", told(made("w10;p10;p10;p10"), 2, 0, 0), 0);
        due("eight", told(x, 2, times(8, 1, 0)), 8);
        x = made("w11;p10");
        due("by the YEARS in which they are THROWN", told(x, 2, 3, 3, 1, 0, 4, 0), 0);
        due("by the YEARS in which they are THROWN", told(x, 2, 3, 3, 4, 0), 1);
    }

    private static void centuryWishes() {
        WishPins x = made("w10;p00");
        due("the one that lies there", told(x, 4), 1);
        due("all six", told(x, 4, 1, 0, 2, 0, 3, 0, 4, 0, 5, 0), 63);
        due("FISHED out ones have none", told(x, 4, 1, 0, 5, 0, 0, 4), 3);
        due("the same one twice", told(x, 4, 5, 0, 5, 0), 33);
    }

    private static void centuryPinThen() {
        WishPins x = made("w10;p30");
        for (int k = 0; k < 9; k++) {
            due("PIN " + k + " of one", told(x, 10 + k), k == 0 ? 3 : NONE);
            due("PIN " + k + " of nine", told(x, 10 + k, times(8, 5, 0)), k == 0 ? 3 : 5);
            due("PIN " + k + " of two", told(x, 10 + k, 5, 0, 5, 0, 0, 4), k == 0 ? 3 : k == 1 ? 5 : NONE);
        }
        x = full();
        for (int k = 0; k < 9; k++) {
            due("PIN " + k + " of nine that lay there", told(x, 10 + k), x.ofPin(k, 4));
            due("PIN " + k + " of nine, with YEARS", told(x, 10 + k, 50, 3), x.ofPin(k, 4));
        }
    }

    private static void centuryOfWrong() {
        for (int what = 0; what <= 18; what++) {
            if (what <= 4 || what >= 10) {
                WishPins x = single();
                due("what " + what, told(x, what, 0, 4), what == 1 ? 0 : -100);
                due("fault", x.fault(), 0);
                due("what " + what, told(x, what, 1, 3, 0, 4, 0, 0), what == 1 ? 1 : -101);
                due("what " + what, told(x, what, times(9, 0, 0)), what == 1 ? 8 : -108);
            }
        }
    }

    private static void centuryOrder() {
        leaves(EdgesTest::dry, "all wrong", x -> x.century(4, 3, -1, 21, 5), UNKNOWN, NO_FAULT);
        leaves(EdgesTest::dry, "lane, then all", x -> x.century(0, 3, -1, 1, 0), OUTSIDE, NO_FAULT);
        leaves(EdgesTest::dry, "n, then all", x -> x.century(0, 0, -1, 21, 0), OUTSIDE, NO_FAULT);
        leaves(EdgesTest::dry, "what, then all", x -> x.century(0, 0, -1, 1, 5), OUTSIDE, NO_FAULT);
        leaves(EdgesTest::dry, "WELL, CAST, INDEX", x -> x.century(3, 0, -1, 1, 0), STATE, NO_FAULT);
        leaves(EdgesTest::dry, "WELL, NULL", x -> x.century(0, 0, -1, 1, 0), STATE, NO_FAULT);
        fails(EdgesTest::wet, "CAST, INDEX", x -> x.century(3, 0, -1, 1, 0), CAST);
        fails(EdgesTest::wet, "NULL, INDEX", x -> x.century(0, 0, -1, 1, 0), NULL);
        // from cell 1 on: 0 and 5
        fails(EdgesTest::wet, "INDEX, a pair", x -> x.century(3, 2, 1, 3, 0), INDEX);
        leaves(EdgesTest::wet, "a pair", x -> x.century(3, 2, 1, 2, 0), OUTSIDE, NO_FAULT);
    }

    // ---- 3 what was wanted

    private static void edgesOfWhatWasWanted() {
        edge(11, "STATE: there is no WELL", () -> leaves(EdgesTest::dry, "no WELL", x -> x.quiet(0), STATE, KEPT));
        edge(11, "how many YEARS (what 0), from which YEAR on (1)", () -> whatIs0Or1(WishPins::quiet, 5, 7));
        edge(11, "from YEAR 0 to the lowest PIN", EdgesTest::quietAheadOfTheLowest);
        edge(11, "from each PIN to the next one", EdgesTest::quietBetween);
        edge(11, "from the topmost till now", EdgesTest::quietTillNow);
        edge(11, "of several the first", EdgesTest::quietOfSeveral);
        edge(11, ORDER, () -> leaves(EdgesTest::dry, "WELL, what", x -> x.quiet(2), STATE, KEPT));
        edge(12, "STATE: there is no WELL", () -> leaves(EdgesTest::dry, "no WELL", x -> x.run(0), STATE, KEPT));
        edge(12, "how many PINS (what 0), the lowest of them (1)", () -> whatIs0Or1(WishPins::run, 1, 0));
        edge(12, "the most PINS side by side with the same WISH", EdgesTest::runSideBySide);
        edge(12, "of several the first", EdgesTest::runOfSeveral);
        edge(12, ORDER, () -> leaves(EdgesTest::dry, "WELL, what", x -> x.run(2), STATE, KEPT));
        edge(13, "STATE: there is no WELL", () -> leaves(EdgesTest::dry, "no WELL", x -> x.shape(0, 0), STATE, KEPT));
        edge(13, "OUTSIDE: kind (0 .. 2)", EdgesTest::shapeKind);
        edge(13, "v (0 .. 5)", EdgesTest::shapeWish);
        edge(13, "the least BEND 0 .. 9", EdgesTest::shapeLeast);
        edge(13, "NONE: by none", EdgesTest::shapeNone);
        edge(13, "a PIN of that kind THROWN now", EdgesTest::shapeNow);
        edge(13, ORDER, () -> leaves(EdgesTest::dry, "WELL, kind, v", x -> x.shape(3, 6), STATE, KEPT));
    }

    /** Answers of wet() to what 0 and 1; any other is OUTSIDE. */
    private static void whatIs0Or1(Asked asked, int of0, int of1) {
        for (int what : new int[] {-1, 2, 3, MIN, MAX}) {
            leaves(EdgesTest::wet, "what " + what, x -> asked.of(x, what), OUTSIDE, KEPT);
        }
        leaves(EdgesTest::wet, "what 0", x -> asked.of(x, 0), of0, KEPT);
        leaves(EdgesTest::wet, "what 1", x -> asked.of(x, 1), of1, KEPT);
    }

    private interface Asked {
        int of(WishPins x, int number);
    }

    private static void quietIs(WishPins x, int years, int from) {
        due("how many YEARS", x.quiet(0), years);
        due("from which YEAR on", x.quiet(1), from);
    }

    private static void quietAheadOfTheLowest() {
        quietIs(made("w10;p09"), 9, 0);
        quietIs(made("w10;p01"), 1, 0);
        quietIs(made("w10;p03;p02;p02"), 3, 0);
        quietIs(made("w10;p00"), 0, 0);
        quietIs(made("w10" + ";p00".repeat(9)), 0, 0);
    }

    private static void quietBetween() {
        quietIs(made("w10;p01;p02;p01"), 2, 1);
        quietIs(made("w10;p01;p02;p03"), 3, 3);
        quietIs(made("w10;p00;p01"), 1, 0);
        quietIs(made("w10;p08" + ";p01".repeat(7) + ";p09"), 9, 15);
        WishPins x = made("w10;p01;p02;p03");
        x.fish();
        due("one that was FISHED out doesn't break it", x.quiet(0), 3);
        due("one that was FISHED out doesn't break it", x.quiet(1), 3);
    }

    private static void quietTillNow() {
        WishPins x = made("w10;p02;p01");
        x.years(1);
        quietIs(x, 2, 0);
        x.years(1);
        quietIs(x, 2, 0);
        x.years(1);
        quietIs(x, 3, 3);
        x.years(99);
        quietIs(x, 102, 3);
        x.throwIn(0, 0);
        quietIs(x, 102, 3);
        x.fish();
        quietIs(x, 102, 3);
    }

    private static void quietOfSeveral() {
        quietIs(made("w10;p03;p03;p03"), 3, 0);
        quietIs(made("w10;p02;p03;p03"), 3, 2);
        WishPins x = made("w10;p02;p03");
        x.years(3);
        quietIs(x, 3, 2);
        x = made("w10;p04");
        x.years(4);
        quietIs(x, 4, 0);
    }

    private static void runIs(WishPins x, int pins, int lowest) {
        due("how many PINS", x.run(0), pins);
        due("the lowest of them", x.run(1), lowest);
    }

    private static void runSideBySide() {
        runIs(made("w10;p10"), 1, 0);
        runIs(made("w10" + ";p10".repeat(9)), 9, 0);
        runIs(made("w10;p10;p70;c00"), 3, 0);
        runIs(made("w10;p00;p10;p10"), 2, 1);
        runIs(made("w10;p10;p10;p00"), 2, 0);
        runIs(made("w10;p10;p00;p10;p00;p10;p10"), 2, 4);
        // by WISHES, not by BENDS: of YEARS 0, 1, 1; of 1, 2, 3; of 1, 2, 2, 3
        runIs(made("w11;p00;p01;p50"), 1, 0);
        runIs(made("w11;p01;p01;p01"), 1, 0);
        runIs(made("w11;p11;p01;p50;p51"), 2, 0);
    }

    private static void runOfSeveral() {
        runIs(made("w10;p10;p20;p30"), 1, 0);
        runIs(made("w10;p00;p10;p10;p20;p20"), 2, 1);
        runIs(made("w10;p10;p10;p20;p20;p20;p30;p30;p30"), 3, 2);
    }

    private static void shapeKind() {
        for (int kind : new int[] {-1, 3, MIN, MAX}) {
            leaves(EdgesTest::wet, "kind " + kind, x -> x.shape(kind, 0), OUTSIDE, KEPT);
        }
        WishPins x = made("w10;p00");
        due("kind 0", x.shape(0, 2), 2);
        due("kind 1", x.shape(1, 2), 1);
        due("kind 2", x.shape(2, 2), 0);
    }

    private static void shapeWish() {
        for (int v : new int[] {-1, 6, MIN, MAX}) {
            leaves(EdgesTest::wet, "v " + v, x -> x.shape(0, v), OUTSIDE, KEPT);
        }
        WishPins x = made("w10;p00");
        for (int v = 0; v <= 5; v++) {
            due("v " + v, x.shape(0, v), v);
        }
    }

    private static void shapeLeast() {
        WishPins x = made("w10;p00");
        due("0, and not 6", x.shape(0, 0), 0);
        due("3, and not 9", x.shape(0, 3), 3);
        due("5, the only one", x.shape(1, 0), 5);
        x = made("w50;p00");
        due("5 times 5 is 25", x.shape(0, 1), 5);
        x = made("w30;p00");
        due("0, and not 2, 4, 6, 8", x.shape(0, 0), 0);
        due("1, and not 3, 5, 7, 9", x.shape(0, 3), 1);
    }

    private static void shapeNone() {
        WishPins x = made("w20;p00");
        for (int v = 1; v <= 5; v += 2) {
            leaves(() -> alike("w20;p00"), "odd by SLOPE 2", same(v), NONE, KEPT);
        }
        due("even by SLOPE 2", x.shape(0, 4), 2);
        x = made("w40;p00");
        due("odd by SLOPE 4", x.shape(0, 3), NONE);
        x = made("w30;p00");
        due("1 by SLOPE 3", x.shape(0, 1), NONE);
        due("DOUBLE, odd by SLOPE 1", made("w10;p00").shape(2, 1), NONE);
        due("DOUBLE, 3 by SLOPE 3", x.shape(2, 3), NONE);
    }

    private static ToLongFunction<WishPins> same(int v) {
        return x -> x.shape(0, v);
    }

    /** A WELL by a TEXT, and rows. */
    private static WishPins alike(String text) {
        WishPins x = made(text);
        rows(x);
        return x;
    }

    private static void shapeNow() {
        WishPins x = made("w11;p03");
        due("in YEAR 3", x.shape(0, 3), 0);
        due("in YEAR 3", x.shape(0, 2), 5);
        x.years(1);
        due("in YEAR 4", x.shape(0, 3), 5);
        due("it has that WISH then", x.throwIn(0, 5), 3);
    }

    // ---- 3 layers

    private static void edgesOfLayers() {
        edge(14, "UNKNOWN: SHEET", EdgesTest::layersUnknown);
        edge(14, "OUTSIDE: lane", EdgesTest::layersLane);
        edge(14, "how many ways (k -1), the PIN in place k (0 .. 8) of the first", EdgesTest::layersPlace);
        edge(14, "STATE: there is no WELL",
            () -> leaves(EdgesTest::dry, "no WELL", x -> x.layers(3, 2, 0, -1), STATE, NO_FAULT));
        edge(14, "CAST", EdgesTest::layersCast);
        edge(14, "NULL", EdgesTest::layersNull);
        edge(14, "INDEX", EdgesTest::layersIndex);
        edge(14, "OUTSIDE: a cell is not 0 .. 6", EdgesTest::layersCells);
        edge(14, "as many as there are PINS", EdgesTest::layersAsManyAsPins);
        edge(14, "NONE: there is no such place", EdgesTest::layersNoPlace);
        edge(14, "no way", EdgesTest::layersNoWay);
        edge(14, "(or 6: any)", EdgesTest::layersAny);
        edge(14, "one for each PIN, the lowest first", EdgesTest::layersAgain);
        edge(14, "such as are alike each for itself", EdgesTest::layersAlike);
        edge(14, "are put into the places (with the YEARS) of one another", EdgesTest::layersYears);
        edge(14, "the first as a row (of PINS in places 0, 1, ..)", EdgesTest::layersFirst);
        edge(14, ORDER, EdgesTest::layersOrder);
    }

    private static void layersUnknown() {
        for (int k : new int[] {-1, 4, MIN, MAX}) {
            leaves(EdgesTest::wet, "SHEET " + k, x -> x.layers(k, 2, 0, -1), UNKNOWN, NO_FAULT);
        }
    }

    private static void layersLane() {
        for (int lane : new int[] {-1, 3, MIN, MAX}) {
            leaves(EdgesTest::wet, "lane " + lane, x -> x.layers(3, lane, 0, -1), OUTSIDE, NO_FAULT);
        }
        for (int lane = 0; lane < 3; lane++) {
            WishPins x = made("w10;p50;p00;p40;p30");
            rows(x);
            due("lane " + lane, x.layers(1 + lane, lane, 0, -1), 1);
            due("lane " + lane, x.layers(1 + lane, lane, 0, 0), 2);
        }
    }

    private static void layersPlace() {
        for (int k : new int[] {-2, 9, 10, MIN, MAX}) {
            leaves(EdgesTest::wet, "k " + k, x -> x.layers(3, 2, 0, k), OUTSIDE, NO_FAULT);
        }
        Supplier<WishPins> nine = () -> {
            WishPins x = full();
            row(x, 3, 2, 6, 6, 6, 6, 6, 6, 6, 6, 6);
            return x;
        };
        leaves(nine, "k -1", x -> x.layers(3, 2, 0, -1), 362880, NO_FAULT);
        for (int k = 0; k <= 8; k++) {
            int place = k;
            leaves(nine, "k " + k, x -> x.layers(3, 2, 0, place), k, NO_FAULT);
        }
    }

    private static void layersCast() {
        fails(EdgesTest::wet, "ints as bytes", x -> x.layers(3, 0, 0, -1), CAST);
        fails(EdgesTest::wet, "ints as shorts", x -> x.layers(3, 1, 0, -1), CAST);
        fails(EdgesTest::wet, "bytes as ints", x -> x.layers(1, 2, 0, 8), CAST);
        fails(EdgesTest::wet, "shorts as bytes", x -> x.layers(2, 0, 0, 8), CAST);
    }

    private static void layersNull() {
        for (int lane = 0; lane < 3; lane++) {
            int asked = lane;
            fails(EdgesTest::wet, "nothing, lane " + lane, x -> x.layers(0, asked, 0, -1), NULL);
        }
    }

    private static void layersIndex() {
        for (int i : new int[] {-1, 3, 5, 6, 7, MIN, MAX, MAX - 3}) {
            fails(EdgesTest::wet, "four from " + i, x -> x.layers(3, 2, i, -1), INDEX);
            fails(EdgesTest::wet, "four from " + i, x -> x.layers(3, 2, i, 8), INDEX);
        }
        leaves(EdgesTest::wet, "up to the last cell", x -> x.layers(3, 2, 2, -1), 0, NO_FAULT);
        fails(EdgesTest::full, "nine of six", x -> x.layers(3, 2, 0, -1), INDEX);
    }

    private static void layersCells() {
        for (int place = 0; place < 4; place++) {
            for (int v : new int[] {-1, 7, 256, 65536, MIN, MAX}) {
                int[] wishes = {6, 6, 6, 6};
                wishes[place] = v;
                Supplier<WishPins> withRow = () -> {
                    WishPins x = wet();
                    row(x, 3, 2, wishes);
                    return x;
                };
                leaves(withRow, v + " at " + place, x -> x.layers(3, 2, 0, -1), OUTSIDE, NO_FAULT);
                leaves(withRow, v + " at " + place, x -> x.layers(3, 2, 0, 8), OUTSIDE, NO_FAULT);
            }
            for (int v = 0; v <= 6; v++) {
                WishPins x = made("w10;p00;p10;p20;p30");
                int[] wishes = {6, 6, 6, 6};
                wishes[place] = v;
                row(x, 3, 2, wishes);
                due(v + " at " + place, x.layers(3, 2, 0, -1), v == 6 ? 24 : v < 4 ? 6 : 0);
            }
        }
    }

    private static void layersAsManyAsPins() {
        WishPins x = made("w10;p10;p20");
        row(x, 3, 2, 7, 6, 6, 7, 6);
        due("the cells around don't matter", x.layers(3, 2, 1, -1), 2);
        due("the cell ahead does", x.layers(3, 2, 0, -1), OUTSIDE);
        due("the cell behind does", x.layers(3, 2, 2, -1), OUTSIDE);
        due("the last cell alone", x.layers(3, 2, 4, -1), -13);
        x.throwIn(0, 0);
        due("three then", x.layers(3, 2, 1, -1), OUTSIDE);
        x = single();
        row(x, 3, 2, 6);
        due("one", x.layers(3, 2, 0, -1), 1);
        due("one from 1", x.layers(3, 2, 1, -1), -13);
    }

    private static void layersNoPlace() {
        Supplier<WishPins> ofAny = () -> {
            WishPins x = wet();
            row(x, 3, 2, 6, 6, 6, 6);
            return x;
        };
        for (int k = 0; k <= 8; k++) {
            int place = k;
            leaves(ofAny, "place " + k, x -> x.layers(3, 2, 0, place), k < 4 ? k : NONE, NO_FAULT);
        }
        WishPins x = single();
        row(x, 3, 2, 1);
        due("place 0 of one", x.layers(3, 2, 0, 0), 0);
        due("place 1 of one", x.layers(3, 2, 0, 1), NONE);
    }

    private static void layersNoWay() {
        Supplier<WishPins> ofNone = () -> {
            WishPins x = wet();
            row(x, 3, 2, 6, 6, 6, 0);
            return x;
        };
        leaves(ofNone, "no ways", x -> x.layers(3, 2, 0, -1), 0, NO_FAULT);
        for (int k = 0; k <= 8; k++) {
            int place = k;
            leaves(ofNone, "place " + k, x -> x.layers(3, 2, 0, place), NONE, NO_FAULT);
        }
        WishPins x = made("w10;p10;p10;p20");
        row(x, 3, 2, 2, 2, 6);
        due("two want the only one", x.layers(3, 2, 0, -1), 0);
        due("two want the only one", x.layers(3, 2, 0, 0), NONE);
        row(x, 3, 2, 2, 1, 1);
        due("each its own", x.layers(3, 2, 0, -1), 2);
    }

    private static void layersAny() {
        WishPins x = made("w10;p10;p20;p30");
        row(x, 3, 2, 6, 6, 6);
        due("any", x.layers(3, 2, 0, -1), 6);
        row(x, 3, 2, 6, 1, 6);
        due("any but one", x.layers(3, 2, 0, -1), 2);
        due("the first", x.layers(3, 2, 0, 0), 1);
        due("the first", x.layers(3, 2, 0, 1), 0);
        row(x, 3, 2, 6, 1, 3);
        due("any where but one is left", x.layers(3, 2, 0, -1), 1);
        due("the first", x.layers(3, 2, 0, 0), 1);
        row(x, 3, 2, 6, 5, 6);
        due("any, and one that can't be", x.layers(3, 2, 0, -1), 0);
    }

    private static void layersAgain() {
        WishPins x = made("w10;p00;p10;p20;p30;p40;p50");
        for (int v = 0; v <= 5; v++) {
            row(x, 3, 2, 6, 6, 6, 6, 6, 6);
            due("any", x.layers(3, 2, 0, -1), 720);
            row(x, 3, 2, v, v, 6, 6, 6, 6);
            due("two want PIN " + v, x.layers(3, 2, 0, -1), 0);
            row(x, 3, 2, v, 6, 6, 6, 6, 6);
            due("the lowest place wants PIN " + v, x.layers(3, 2, 0, -1), 120);
            due("the lowest place wants PIN " + v, x.layers(3, 2, 0, 0), v);
            due("the next place", x.layers(3, 2, 0, 1), v == 0 ? 1 : 0);
            row(x, 3, 2, 6, 6, 6, 6, 6, v);
            due("the topmost place wants PIN " + v, x.layers(3, 2, 0, 5), v);
            due("the lowest place", x.layers(3, 2, 0, 0), v == 0 ? 1 : 0);
        }
    }

    private static void layersAlike() {
        WishPins x = made("w10" + ";p10".repeat(9));
        row(x, 3, 2, 1, 1, 1, 1, 1, 1, 1, 1, 1);
        due("nine alike", x.layers(3, 2, 0, -1), 362880);
        x = made("w10;p10;p10");
        row(x, 3, 2, 6, 1);
        due("two alike", x.layers(3, 2, 0, -1), 2);
        x = made("w10;p10;p70;c00");
        row(x, 3, 2, 1, 6, 1);
        due("three with the same WISH", x.layers(3, 2, 0, -1), 6);
    }

    private static void layersYears() {
        WishPins x = made("w11;p00;p01;p01");
        // all are alike, so the WISH is the place's: 0, 1, 2
        row(x, 3, 2, 0, 1, 2);
        due("WISHES of the places' YEARS", x.layers(3, 2, 0, -1), 6);
        row(x, 3, 2, 0, 0, 6);
        due("WISHES of other YEARS", x.layers(3, 2, 0, -1), 0);
        x = made("w11;p50;p01;p54");
        // place 2 is of YEAR 5: a PIN of BEND 5 wishes 4 there, of BEND 0 5
        row(x, 3, 2, 6, 6, 5);
        due("the one of BEND 0 there", x.layers(3, 2, 0, -1), 2);
        due("the first, place 0", x.layers(3, 2, 0, 0), 0);
        due("the first, place 1", x.layers(3, 2, 0, 1), 2);
        due("the first, place 2", x.layers(3, 2, 0, 2), 1);
    }

    private static void layersFirst() {
        WishPins x = made("w10;p10;p20;p10;p20;p30");
        int[][] rows = {{6, 6, 6, 6, 6}, {2, 6, 1, 6, 6}, {6, 1, 1, 6, 6}, {3, 2, 2, 1, 1}, {6, 6, 6, 6, 1}};
        int[][] firsts = {{0, 1, 2, 3, 4}, {1, 0, 2, 3, 4}, {1, 0, 2, 3, 4}, {4, 1, 3, 0, 2}, {0, 1, 3, 4, 2}};
        int[] ways = {120, 24, 12, 4, 48};
        for (int r = 0; r < rows.length; r++) {
            row(x, 3, 2, rows[r]);
            due("ways of row " + r, x.layers(3, 2, 0, -1), ways[r]);
            for (int k = 0; k < 5; k++) {
                due("row " + r + ", place " + k, x.layers(3, 2, 0, k), firsts[r][k]);
            }
        }
    }

    private static void layersOrder() {
        leaves(EdgesTest::dry, "all wrong", x -> x.layers(4, 3, -1, 9), UNKNOWN, NO_FAULT);
        leaves(EdgesTest::dry, "lane, WELL, NULL", x -> x.layers(0, 3, -1, 0), OUTSIDE, NO_FAULT);
        leaves(EdgesTest::dry, "k, WELL, NULL", x -> x.layers(0, 0, -1, 9), OUTSIDE, NO_FAULT);
        leaves(EdgesTest::dry, "WELL, NULL", x -> x.layers(0, 0, -1, 0), STATE, NO_FAULT);
        leaves(EdgesTest::dry, "WELL, CAST", x -> x.layers(3, 0, -1, 0), STATE, NO_FAULT);
        fails(EdgesTest::wet, "CAST, INDEX", x -> x.layers(3, 0, -1, 0), CAST);
        fails(EdgesTest::wet, "NULL, INDEX", x -> x.layers(0, 0, -1, 0), NULL);
        Supplier<WishPins> wrongRow = () -> {
            WishPins x = wet();
            row(x, 3, 2, 7, 7, 7, 7);
            return x;
        };
        fails(wrongRow, "INDEX, a cell", x -> x.layers(3, 2, 1, 8), INDEX);
        leaves(wrongRow, "a cell, no such place", x -> x.layers(3, 2, 0, 8), OUTSIDE, NO_FAULT);
    }

    // ---- 4 what it wished

    private static void edgesOfReadings() {
        edge(15, "UNKNOWN", EdgesTest::readingUnknown);
        edge(15, "OUTSIDE: v (0 .. 5)", EdgesTest::readingOutside);
        edge(15, "FULL", EdgesTest::readingFull);
        edge(15, "READINGS, 8 at most, numbered by how many there are", EdgesTest::readingNumbers);
        edge(15, ORDER, EdgesTest::readingOrder);
        edge(16, "(0 .. as many as there are)", EdgesTest::backOutside);
        edge(16, "The last k READINGS", EdgesTest::backTheLast);
        edge(17, "UNKNOWN", () -> unknownPins(WishPins::bends));
        edge(17, "BENDS of a PIN: 0 .. 9", EdgesTest::bendsOfNone);
        edge(17, "in place of what it is alone, by which all READINGS are so", EdgesTest::bendsAlone);
        edge(18, "UNKNOWN", () -> unknownPins(WishPins::kinds));
        edge(18, "KINDS of a PIN: 0 .. 2", EdgesTest::kindsOfNone);
        edge(18, "in place of what it is alone, by which all READINGS are so", EdgesTest::kindsAlone);
        edge(19, "STATE: there is no WELL", () -> leaves(EdgesTest::dry, "no WELL", x -> x.keys(0), STATE, KEPT));
        edge(19, "how many (what 0), the least (1), the greatest (2)", EdgesTest::keysOutside);
        edge(19, "KEYS: SLOPE 1 .. 5, DRIFT 0 .. 5", EdgesTest::keysOfNoReading);
        edge(19, "by which all READINGS are so", EdgesTest::keysOfAll);
        edge(19, "NONE (of 1, 2): there are none", EdgesTest::keysNone);
        edge(19, ORDER, () -> leaves(EdgesTest::dry, "WELL, what", x -> x.keys(3), STATE, KEPT));
        edge(20, "ODDS of a kind (0 .. 2)", EdgesTest::oddsKind);
        edge(20, "and a WISH (0 .. 5;", EdgesTest::oddsWish);
        edge(20, "which 0 the upper, 1 the lower number", EdgesTest::oddsWhich);
        edge(20, "LOST: OUTSIDE; STATE: there is no WELL", EdgesTest::oddsState);
        edge(20, "Shares are told as upper and lower number (above 0) in least terms", EdgesTest::oddsTerms);
        edge(20, "if BEND of a PIN of that kind THROWN now is any of 0 .. 9, all alike", EdgesTest::oddsNow);
    }

    private static void readingUnknown() {
        for (int k : new int[] {-1, 4, 9, MIN, MAX}) {
            leaves(EdgesTest::wet, "PIN " + k, x -> x.reading(k, 0), UNKNOWN, KEPT);
        }
        leaves(EdgesTest::dry, "no PINS", x -> x.reading(0, 0), UNKNOWN, KEPT);
    }

    private static void readingOutside() {
        for (int v : new int[] {-1, 6, MIN, MAX}) {
            leaves(EdgesTest::wet, "v " + v, x -> x.reading(0, v), OUTSIDE, KEPT);
        }
        WishPins x = wet();
        due("v 0", x.reading(0, 0), 2);
        due("v 5", x.reading(3, 5), 3);
    }

    private static void readingFull() {
        leaves(EdgesTest::full, "the ninth", x -> x.reading(0, 0), FULL, KEPT);
        WishPins x = full();
        due("back", x.back(1), 7);
        due("the eighth again", x.reading(0, 0), 7);
        due("FULL again", x.reading(0, 0), FULL);
        due("many", x.many(4), 8);
    }

    private static void readingNumbers() {
        WishPins x = made("w10;p10");
        for (int number = 0; number < 8; number++) {
            due("its number", x.reading(0, 1), number);
            due("how many", x.many(4), number + 1);
        }
        due("the ninth", x.reading(0, 1), FULL);
        x.back(8);
        due("from 0 again", x.reading(0, 1), 0);
    }

    private static void readingOrder() {
        leaves(EdgesTest::full, "PIN, v, FULL", x -> x.reading(9, 6), UNKNOWN, KEPT);
        leaves(EdgesTest::full, "PIN, FULL", x -> x.reading(9, 0), UNKNOWN, KEPT);
        leaves(EdgesTest::full, "v, FULL", x -> x.reading(0, 6), OUTSIDE, KEPT);
    }

    private static void backOutside() {
        for (int k : new int[] {-1, 3, MIN, MAX}) {
            leaves(EdgesTest::wet, "k " + k, x -> x.back(k), OUTSIDE, KEPT);
        }
        leaves(EdgesTest::wet, "k 0", x -> x.back(0), 2, KEPT);
        leaves(EdgesTest::dry, "k 0 of none", x -> x.back(0), 0, KEPT);
        leaves(EdgesTest::dry, "k 1 of none", x -> x.back(1), OUTSIDE, KEPT);
        leaves(EdgesTest::full, "k 9", x -> x.back(9), OUTSIDE, KEPT);
        WishPins x = full();
        due("k 8", x.back(8), 0);
        due("k 1 of none", x.back(1), OUTSIDE);
    }

    private static void backTheLast() {
        WishPins x = made("w10;p10");
        x.reading(0, 1);
        x.reading(0, 2);
        x.reading(0, 3);
        due("two of three", x.back(2), 1);
        due("the first is left", x.bends(0), 1 << 1 | 1 << 7);
        due("many", x.many(4), 1);
    }

    private static void unknownPins(Asked asked) {
        for (int k : new int[] {-1, 4, 9, MIN, MAX}) {
            leaves(EdgesTest::wet, "PIN " + k, x -> asked.of(x, k), UNKNOWN, KEPT);
        }
        leaves(EdgesTest::dry, "no PINS", x -> asked.of(x, 0), UNKNOWN, KEPT);
        leaves(EdgesTest::full, "the tenth", x -> asked.of(x, 9), UNKNOWN, KEPT);
    }

    private static void bendsOfNone() {
        WishPins x = made("w10;p10;c10;d10");
        for (int k = 0; k < 3; k++) {
            due("no READINGS: all ten", x.bends(k), 1023);
        }
        x.reading(0, 0);
        due("0 and 6", x.bends(0), 1 | 1 << 6);
        x.back(1);
        x.reading(0, 3);
        due("3 and 9", x.bends(0), 1 << 3 | 1 << 9);
        x.reading(0, 4);
        due("none", x.bends(0), 0);
        x.back(2);
        x.reading(2, 1);
        due("none of a DOUBLE", x.bends(2), 0);
    }

    private static void bendsAlone() {
        WishPins x = made("w10;p10;p20");
        x.reading(0, 1);
        due("of the other: any", x.bends(1), 1023);
        x.reading(1, 3);
        due("the other's READING is not so", x.bends(0), 0);
        due("by its own BEND", x.bends(1), 1 << 3 | 1 << 9);
        x.bend(1, 3);
        due("the other's READING is so", x.bends(0), 1 << 1 | 1 << 7);
        x.rekey(2, 0);
        due("by the KEY that is now none", x.bends(0), 0);
        x = withOneOfEight();
        for (int k = 0; k < 9; k++) {
            due("all but the eighth are so, PIN " + k, x.bends(k), 0);
        }
    }

    /** Eight READINGS of PIN 0, the last of them unlike the others. */
    private static WishPins withOneOfEight() {
        WishPins x = full();
        x.back(8);
        for (int r = 0; r < 8; r++) {
            due("(reading)", x.reading(0, r < 7 ? 1 : 2), r);
        }
        return x;
    }

    private static void kindsOfNone() {
        WishPins x = made("w10;p10;c10;d10");
        for (int k = 0; k < 3; k++) {
            due("no READINGS: all three", x.kinds(k), 7);
        }
        int[] sets = {0, 1, 2, 0, 4, 0};
        for (int v = 0; v <= 5; v++) {
            x.reading(2, v);
            due("WISH " + v + " by BEND 1", x.kinds(2), sets[v]);
            x.back(1);
        }
        x = made("w30;c10");
        x.reading(0, 0);
        due("two of three", x.kinds(0), 2 | 4);
    }

    private static void kindsAlone() {
        WishPins x = made("w10;p10;p20");
        x.reading(0, 1);
        due("of the other: any", x.kinds(1), 7);
        x.reading(1, 3);
        due("the other's READING is not so", x.kinds(0), 0);
        due("by its own kind", x.kinds(1), 2);
        x.bend(1, 3);
        due("the other's READING is so", x.kinds(0), 1);
        x.rekey(2, 0);
        due("by the KEY that is now none", x.kinds(0), 0);
        x = withOneOfEight();
        for (int k = 0; k < 9; k++) {
            due("all but the eighth are so, PIN " + k, x.kinds(k), 0);
        }
    }

    private static void keysOutside() {
        for (int what : new int[] {-1, 3, MIN, MAX}) {
            leaves(EdgesTest::wet, "what " + what, x -> x.keys(what), OUTSIDE, KEPT);
        }
        // SLOPE s, DRIFT d: 4 s + d is 5, and 3 s + d is 3 (6 parts): s is 2
        leaves(EdgesTest::wet, "what 0", x -> x.keys(0), 1, KEPT);
        leaves(EdgesTest::wet, "what 1", x -> x.keys(1), 23, KEPT);
        leaves(EdgesTest::wet, "what 2", x -> x.keys(2), 23, KEPT);
    }

    private static void keysOfNoReading() {
        WishPins x = made("w33;p10");
        due("all", x.keys(0), 30);
        due("the least", x.keys(1), 10);
        due("the greatest", x.keys(2), 55);
        x.reading(0, 1);
        // s is 1, DRIFT any
        due("SLOPE 1", x.keys(0), 6);
        due("the least", x.keys(1), 10);
        due("the greatest", x.keys(2), 15);
        x.back(1);
        x.reading(0, 5);
        due("SLOPE 5", x.keys(0), 6);
        due("the least", x.keys(1), 50);
        due("the greatest", x.keys(2), 55);
        x.back(1);
        x.reading(0, 0);
        due("SLOPE 6 is none", x.keys(0), 0);
        x = made("w33;p01");
        x.reading(0, 0);
        due("DRIFT 0", x.keys(0), 5);
        due("the greatest", x.keys(2), 50);
        x.reading(0, 5);
        due("none", x.keys(0), 0);
        x.back(2);
        x.reading(0, 5);
        due("DRIFT 5", x.keys(0), 5);
        due("the least", x.keys(1), 15);
    }

    private static void keysOfAll() {
        WishPins x = made("w33;p10;p21");
        x.reading(0, 1);
        due("of the first: SLOPE 1", x.keys(0), 6);
        x.reading(1, 2);
        due("of both: and DRIFT 0", x.keys(0), 1);
        due("the least", x.keys(1), 10);
        due("the greatest", x.keys(2), 10);
        x.back(1);
        x.reading(1, 1);
        due("of both: and DRIFT 5", x.keys(1), 15);
        due("all but the eighth are so", withOneOfEight().keys(0), 0);
    }

    private static void keysNone() {
        Supplier<WishPins> unlike = () -> {
            WishPins x = wet();
            x.reading(0, 4);
            return x;
        };
        leaves(unlike, "how many", x -> x.keys(0), 0, KEPT);
        leaves(unlike, "the least", x -> x.keys(1), NONE, KEPT);
        leaves(unlike, "the greatest", x -> x.keys(2), NONE, KEPT);
    }

    private static void oddsKind() {
        for (int kind : new int[] {-1, 3, MIN, MAX}) {
            leaves(EdgesTest::wet, "kind " + kind, x -> x.odds(kind, 0, 0), LOST, KEPT);
            leaves(EdgesTest::wet, "kind " + kind, x -> x.odds(kind, 0, 1), LOST, KEPT);
        }
        WishPins x = made("w10;p00");
        int[] uppers = {1, 1, 3};
        int[] lowers = {5, 10, 10};
        for (int kind = 0; kind <= 2; kind++) {
            due("upper of kind " + kind, x.odds(kind, 0, 0), uppers[kind]);
            due("lower of kind " + kind, x.odds(kind, 0, 1), lowers[kind]);
        }
    }

    private static void oddsWish() {
        for (int v : new int[] {-1, 6, MIN, MAX}) {
            leaves(EdgesTest::wet, "v " + v, x -> x.odds(0, v, 0), LOST, KEPT);
            leaves(EdgesTest::wet, "v " + v, x -> x.odds(0, v, 1), LOST, KEPT);
        }
        WishPins x = made("w10;p00");
        int[] lowers = {5, 5, 5, 5, 10, 10};
        for (int v = 0; v <= 5; v++) {
            due("upper of " + v, x.odds(0, v, 0), 1);
            due("lower of " + v, x.odds(0, v, 1), lowers[v]);
        }
    }

    private static void oddsWhich() {
        for (int which : new int[] {-1, 2, MIN, MAX}) {
            leaves(EdgesTest::wet, "which " + which, x -> x.odds(0, 0, which), LOST, KEPT);
        }
        leaves(() -> alike("w10;p00"), "which 0", x -> x.odds(2, 4, 0), 3, KEPT);
        leaves(() -> alike("w10;p00"), "which 1", x -> x.odds(2, 4, 1), 10, KEPT);
    }

    private static void oddsState() {
        leaves(EdgesTest::dry, "no WELL", x -> x.odds(0, 0, 0), LOST, KEPT);
        leaves(EdgesTest::dry, "no WELL", x -> x.odds(0, 0, 1), LOST, KEPT);
        leaves(EdgesTest::dry, "no WELL, all OUTSIDE", x -> x.odds(3, 6, 2), LOST, KEPT);
    }

    private static void oddsAre(WishPins x, int kind, int v, int upper, int lower) {
        due("upper of kind " + kind + ", WISH " + v, x.odds(kind, v, 0), upper);
        due("lower of kind " + kind + ", WISH " + v, x.odds(kind, v, 1), lower);
    }

    private static void oddsTerms() {
        WishPins x = made("w10;p00");
        oddsAre(x, 2, 1, 0, 1);
        oddsAre(x, 0, 4, 1, 10);
        oddsAre(x, 0, 0, 1, 5);
        oddsAre(x, 2, 0, 3, 10);
        oddsAre(x, 2, 2, 2, 5);
        oddsAre(made("w30;p00"), 0, 0, 1, 2);
        oddsAre(made("w30;p00"), 2, 0, 1, 1);
        oddsAre(made("w30;p00"), 2, 3, 0, 1);
    }

    private static void oddsNow() {
        WishPins x = made("w11;p00");
        oddsAre(x, 0, 3, 1, 5);
        oddsAre(x, 0, 4, 1, 10);
        x.years(1);
        // BEND and 1: 4 comes of 3 and 9, 5 of 4, 0 of 5
        oddsAre(x, 0, 4, 1, 5);
        oddsAre(x, 0, 5, 1, 10);
        oddsAre(x, 0, 0, 1, 10);
        x.reading(0, 5);
        oddsAre(x, 0, 4, 1, 5);
    }

    // ---- 5 sheets

    private static void edgesOfSheets() {
        edge(21, "UNKNOWN", () -> unknownSheets((x, k) -> x.sheet(k, 0, 1), UNKNOWN, NO_FAULT));
        edge(21, "OUTSIDE: lane", EdgesTest::sheetLane);
        edge(21, "n above 60", EdgesTest::sheetTooLong);
        edge(21, "SIZE", EdgesTest::sheetSize);
        edge(21, "a row of 0 .. 60 numbers (0 at first)", EdgesTest::sheetNumbers);
        edge(21, ORDER, EdgesTest::sheetOrder);
        edge(21, "SHEETS 0 .. 3", EdgesTest::sheetsOfTheirOwn);
        edge(21, "A SHEET gets a new row: 1", EdgesTest::sheetNewRow);
        edge(22, "UNKNOWN", () -> unknownSheets(WishPins::lose, UNKNOWN, KEPT));
        edge(22, "0: it had nothing", EdgesTest::loseNothing);
        edge(22, "A SHEET has nothing: 1", EdgesTest::loseRow);
        edge(23, "UNKNOWN", () -> unknownSheets((x, k) -> x.put(k, 0, 1), UNKNOWN, NO_FAULT));
        edge(23, "NULL", () -> fails(EdgesTest::wet, "nothing", x -> x.put(0, 0, 1), NULL));
        edge(23, "INDEX", EdgesTest::putIndex);
        edge(23, "what comes to a cell of it is cut to its LANE (with its sign)", EdgesTest::putCuts);
        edge(23, ORDER, EdgesTest::putOrder);
        edge(24, "LOST: UNKNOWN", () -> unknownSheets((x, k) -> lost(x.cell(k, 0, 2)), 1, NO_FAULT));
        edge(24, "OUTSIDE: lane", EdgesTest::cellLane);
        edge(24, "CAST (nothing is no CAST)", EdgesTest::cellCast);
        edge(24, "NULL", EdgesTest::cellNull);
        edge(24, "INDEX", EdgesTest::cellIndex);
        edge(24, "LOST, where a long is answered, as for refusals", EdgesTest::cellLost);
        edge(24, ORDER, EdgesTest::cellOrder);
    }

    private static int lost(long answer) {
        return answer == LOST ? 1 : 0;
    }

    private static void unknownSheets(Asked asked, int answer, int faultThen) {
        for (int k : new int[] {-1, 4, MIN, MAX}) {
            leaves(EdgesTest::wet, "SHEET " + k, x -> asked.of(x, k), answer, faultThen);
        }
    }

    private static void sheetLane() {
        for (int lane : new int[] {-1, 3, MIN, MAX}) {
            leaves(EdgesTest::wet, "lane " + lane, x -> x.sheet(3, lane, 1), OUTSIDE, NO_FAULT);
        }
        for (int lane = 0; lane < 3; lane++) {
            WishPins x = new WishPins();
            due("lane " + lane, x.sheet(lane, lane, 1), 1);
            for (int asked = 0; asked < 3; asked++) {
                due("cell as lane " + asked, x.cell(lane, 0, asked), asked == lane ? 0 : LOST);
            }
        }
    }

    private static void sheetTooLong() {
        for (int n : new int[] {61, 62, 1000, MAX}) {
            leaves(EdgesTest::wet, "n " + n, x -> x.sheet(3, 2, n), OUTSIDE, NO_FAULT);
        }
        WishPins x = wet();
        due("n 60", x.sheet(3, 2, 60), 1);
        due("the last", x.put(3, 59, 7), 1);
        due("none behind it", x.put(3, 60, 7), -13);
    }

    private static void sheetSize() {
        for (int n : new int[] {-1, -60, MIN}) {
            fails(EdgesTest::wet, "n " + n, x -> x.sheet(3, 2, n), SIZE);
            fails(EdgesTest::dry, "n " + n, x -> x.sheet(0, 0, n), SIZE);
        }
    }

    private static void sheetNumbers() {
        WishPins x = new WishPins();
        for (int n : new int[] {0, 1, 59, 60, 60, 2, 60}) {
            due("n " + n, x.sheet(2, 1, n), 1);
            for (int i = 0; i < n; i++) {
                due("cell " + i + " of " + n, x.cell(2, i, 1), 0);
            }
            due("none behind " + n, x.cell(2, n, 1), LOST);
            due("fault", x.fault(), INDEX);
            if (n > 0) {
                due("put ahead of the next row", x.put(2, n - 1, 9), 1);
                due("put ahead of the next row", x.put(2, 0, 9), 1);
            }
        }
    }

    private static void sheetsOfTheirOwn() {
        WishPins x = new WishPins();
        for (int k = 0; k < 4; k++) {
            due("SHEET " + k, x.sheet(k, 2, 1 + k), 1);
            due("its last", x.put(k, k, 100 + k), 1);
        }
        for (int k = 0; k < 4; k++) {
            due("the last of " + k, x.cell(k, k, 2), 100 + k);
            due("behind it", x.cell(k, k + 1, 2), LOST);
        }
        due("lose 0", x.lose(0), 1);
        due("lose 3", x.lose(3), 1);
        due("SHEET 1 stays", x.cell(1, 1, 2), 101);
        due("SHEET 2 stays", x.cell(2, 2, 2), 102);
    }

    private static void sheetNewRow() {
        WishPins x = wet();
        due("bytes where ints were", x.sheet(3, 0, 2), 1);
        due("as ints", x.cell(3, 0, 2), LOST);
        due("fault", x.fault(), CAST);
        due("as bytes", x.cell(3, 0, 0), 0);
        due("none behind it", x.put(3, 2, 1), -13);
        due("put", x.put(3, 0, 300), 1);
        due("cut to a byte", x.cell(3, 0, 0), 44);
        due("the WELL stays", x.many(0), 4);
        due("the READINGS stay", x.many(4), 2);
    }

    private static void sheetOrder() {
        leaves(EdgesTest::wet, "SHEET, lane, n", x -> x.sheet(4, 3, 61), UNKNOWN, NO_FAULT);
        leaves(EdgesTest::wet, "SHEET, SIZE", x -> x.sheet(4, 0, -1), UNKNOWN, NO_FAULT);
        leaves(EdgesTest::wet, "lane, SIZE", x -> x.sheet(0, 3, -1), OUTSIDE, NO_FAULT);
        leaves(EdgesTest::wet, "lane, n", x -> x.sheet(0, 3, 61), OUTSIDE, NO_FAULT);
    }

    private static void loseNothing() {
        leaves(EdgesTest::wet, "nothing", x -> x.lose(0), 0, KEPT);
        WishPins x = new WishPins();
        for (int k = 0; k < 4; k++) {
            due("nothing at first", x.lose(k), 0);
            due("a row of none", x.sheet(k, 0, 0), 1);
            due("it had a row, if of none", x.lose(k), 1);
            due("nothing again", x.lose(k), 0);
        }
    }

    private static void loseRow() {
        WishPins x = wet();
        due("a row", x.lose(3), 1);
        due("put", x.put(3, 0, 1), -11);
        for (int lane = 0; lane < 3; lane++) {
            due("cell", x.cell(3, 0, lane), LOST);
            due("fault", x.fault(), NULL);
        }
        due("another one stays", x.cell(2, 0, 1), 4);
        due("lose names no FAULTS", x.put(2, 6, 0), -13);
        due("lose", x.lose(2), 1);
        due("lose names no FAULTS", x.fault(), INDEX);
    }

    private static void putIndex() {
        for (int i : new int[] {-1, 6, 7, 60, MIN, MAX}) {
            for (int k = 1; k <= 3; k++) {
                int sheet = k;
                fails(EdgesTest::wet, "i " + i, x -> x.put(sheet, i, 1), INDEX);
            }
        }
        WishPins x = wet();
        due("the first", x.put(3, 0, 8), 1);
        due("the last", x.put(3, 5, 9), 1);
        due("the first", x.cell(3, 0, 2), 8);
        due("the last", x.cell(3, 5, 2), 9);
        due("the one between", x.cell(3, 1, 2), 0);
        due("none of none", x.sheet(3, 2, 0), 1);
        due("none of none", x.put(3, 0, 1), -13);
    }

    private static void putCuts() {
        int[] put = {127, 128, 255, 256, -128, -129, -1, 32767, 32768, 65535, 65536, -32768, -32769, MAX, MIN};
        int[] bytes = {127, -128, -1, 0, -128, 127, -1, -1, 0, -1, 0, 0, -1, -1, 0};
        int[] shorts = {127, 128, 255, 256, -128, -129, -1, 32767, -32768, -1, 0, -32768, 32767, -1, 0};
        WishPins x = wet();
        for (int i = 0; i < put.length; i++) {
            for (int k = 1; k <= 3; k++) {
                due("put " + put[i], x.put(k, 5, put[i]), 1);
            }
            due(put[i] + " as a byte", x.cell(1, 5, 0), bytes[i]);
            due(put[i] + " as a short", x.cell(2, 5, 1), shorts[i]);
            due(put[i] + " as an int", x.cell(3, 5, 2), put[i]);
        }
    }

    private static void putOrder() {
        leaves(EdgesTest::wet, "SHEET, INDEX", x -> x.put(4, -1, 1), UNKNOWN, NO_FAULT);
        fails(EdgesTest::wet, "NULL, INDEX", x -> x.put(0, -1, 1), NULL);
    }

    private static void cellLane() {
        for (int lane : new int[] {-1, 3, MIN, MAX}) {
            leaves(EdgesTest::wet, "lane " + lane, x -> x.cell(3, 0, lane), LOST, NO_FAULT);
            leaves(EdgesTest::wet, "lane " + lane + " of nothing", x -> x.cell(0, 0, lane), LOST, NO_FAULT);
        }
        for (int lane = 0; lane < 3; lane++) {
            int own = lane;
            leaves(EdgesTest::wet, "its own lane", x -> x.cell(1 + own, 0, own), 4, NO_FAULT);
        }
    }

    private static void cellCast() {
        for (int k = 1; k <= 3; k++) {
            for (int lane = 0; lane < 3; lane++) {
                int sheet = k;
                int asked = lane;
                if (lane != k - 1) {
                    leaves(EdgesTest::wet, "SHEET " + k + " as " + lane, x -> x.cell(sheet, 0, asked), LOST, CAST);
                }
            }
        }
        leaves(EdgesTest::wet, "nothing is no CAST", x -> x.cell(0, 0, 0), LOST, NULL);
    }

    private static void cellNull() {
        for (int lane = 0; lane < 3; lane++) {
            int asked = lane;
            leaves(EdgesTest::wet, "nothing as " + lane, x -> x.cell(0, 0, asked), LOST, NULL);
        }
    }

    private static void cellIndex() {
        for (int i : new int[] {-1, 6, 7, 60, MIN, MAX}) {
            leaves(EdgesTest::wet, "i " + i, x -> x.cell(3, i, 2), LOST, INDEX);
        }
        leaves(EdgesTest::wet, "the first", x -> x.cell(3, 0, 2), 4, NO_FAULT);
        leaves(EdgesTest::wet, "the last", x -> x.cell(3, 5, 2), 4, NO_FAULT);
        leaves(EdgesTest::wet, "the last but one", x -> x.cell(3, 4, 2), 0, NO_FAULT);
    }

    private static void cellLost() {
        WishPins x = wet();
        int[] put = {MIN, MAX, -1};
        for (int v : put) {
            x.put(3, 0, v);
            due("a number is never LOST", x.cell(3, 0, 2), v);
        }
        due("UNKNOWN", x.cell(4, 0, 2), LOST);
        due("OUTSIDE", x.cell(3, 0, 3), LOST);
        due("CAST", x.cell(3, 0, 0), LOST);
        due("NULL", x.cell(0, 0, 2), LOST);
        due("INDEX", x.cell(3, 6, 2), LOST);
    }

    private static void cellOrder() {
        leaves(EdgesTest::wet, "SHEET, lane, INDEX", x -> x.cell(4, -1, 3), LOST, NO_FAULT);
        leaves(EdgesTest::wet, "lane, INDEX", x -> x.cell(3, -1, 3), LOST, NO_FAULT);
        leaves(EdgesTest::wet, "lane, NULL", x -> x.cell(0, -1, 3), LOST, NO_FAULT);
        leaves(EdgesTest::wet, "CAST, INDEX", x -> x.cell(3, -1, 1), LOST, CAST);
        leaves(EdgesTest::wet, "NULL, INDEX", x -> x.cell(0, -1, 1), LOST, NULL);
    }

    private static void edgesOfCopy() {
        edge(25, "UNKNOWN", EdgesTest::copyUnknown);
        edge(25, "NULL (the first, the other)", EdgesTest::copyNull);
        edge(25, "CAST (unlike LANES)", EdgesTest::copyCast);
        edge(25, "INDEX: i, j, n below 0", EdgesTest::copyBelow);
        edge(25, "or beyond", EdgesTest::copyBeyond);
        edge(25, NO_CELLS, EdgesTest::copyIndexOfNone);
        edge(25, "(perhaps the same) from j on, as they were", EdgesTest::copyToTheSame);
        edge(25, "n cells of a SHEET from i on go to another one", EdgesTest::copyAll);
        edge(25, ORDER, EdgesTest::copyOrder);
    }

    /** As wet(), but SHEET 0 has a row of four ints. */
    private static WishPins withTwoRows() {
        WishPins x = wet();
        row(x, 0, 2, -1, -2, -3, -4);
        return x;
    }

    private static void copyUnknown() {
        for (int k : new int[] {-1, 4, MIN, MAX}) {
            leaves(EdgesTest::wet, "from " + k, x -> x.copy(k, 0, 3, 0, 1), UNKNOWN, NO_FAULT);
            leaves(EdgesTest::wet, "to " + k, x -> x.copy(3, 0, k, 0, 1), UNKNOWN, NO_FAULT);
        }
    }

    private static void copyNull() {
        fails(EdgesTest::wet, "the first", x -> x.copy(0, 0, 3, 0, 1), NULL);
        fails(EdgesTest::wet, "the other", x -> x.copy(3, 0, 0, 0, 1), NULL);
        fails(EdgesTest::wet, "both", x -> x.copy(0, 0, 0, 0, 0), NULL);
        fails(EdgesTest::wet, "none of them", x -> x.copy(3, 0, 0, 0, 0), NULL);
    }

    private static void copyCast() {
        for (int k = 1; k <= 3; k++) {
            for (int other = 1; other <= 3; other++) {
                int from = k;
                int to = other;
                if (k != other) {
                    fails(EdgesTest::wet, k + " to " + other, x -> x.copy(from, 0, to, 0, 1), CAST);
                    fails(EdgesTest::wet, "none of " + k + " to " + other, x -> x.copy(from, 0, to, 0, 0), CAST);
                } else {
                    leaves(EdgesTest::wet, "to itself", x -> x.copy(from, 0, to, 0, 6), 6, NO_FAULT);
                }
            }
        }
    }

    private static void copyBelow() {
        for (int below : new int[] {-1, -4, MIN}) {
            fails(EdgesTest::withTwoRows, "i " + below, x -> x.copy(3, below, 0, 0, 1), INDEX);
            fails(EdgesTest::withTwoRows, "j " + below, x -> x.copy(3, 0, 0, below, 1), INDEX);
            fails(EdgesTest::withTwoRows, "n " + below, x -> x.copy(3, 4, 0, 4, below), INDEX);
        }
    }

    private static void copyBeyond() {
        int[][] beyond = {{0, 0, 5}, {3, 0, 4}, {6, 0, 1}, {0, 4, 1}, {0, 1, 4}, {MAX, 0, 1}, {0, MAX, 1}, {0, 0, MAX},
            {1, 1, MAX}, {MAX, MAX, MAX}, {MAX, 0, 0}};
        for (int[] at : beyond) {
            fails(EdgesTest::withTwoRows, "i " + at[0] + ", j " + at[1] + ", n " + at[2],
                x -> x.copy(3, at[0], 0, at[1], at[2]), INDEX);
        }
        fails(EdgesTest::withTwoRows, "beyond of the shorter first", x -> x.copy(0, 0, 3, 0, 5), INDEX);
        fails(EdgesTest::withTwoRows, "beyond of the shorter first", x -> x.copy(0, 4, 3, 0, 1), INDEX);
        WishPins x = withTwoRows();
        due("up to the last of both", x.copy(3, 2, 0, 0, 4), 4);
        due("the last alone", x.copy(3, 5, 0, 3, 1), 1);
    }

    private static void copyIndexOfNone() {
        for (int beyond : new int[] {-1, 7, MIN, MAX}) {
            fails(EdgesTest::withTwoRows, "none from " + beyond, x -> x.copy(3, beyond, 0, 0, 0), INDEX);
        }
        for (int beyond : new int[] {-1, 5, MIN, MAX}) {
            fails(EdgesTest::withTwoRows, "none to " + beyond, x -> x.copy(3, 0, 0, beyond, 0), INDEX);
        }
        leaves(EdgesTest::withTwoRows, "none at the ends", x -> x.copy(3, 6, 0, 4, 0), 0, NO_FAULT);
        leaves(EdgesTest::withTwoRows, "none at the beginnings", x -> x.copy(3, 0, 0, 0, 0), 0, NO_FAULT);
    }

    private static void cells(WishPins x, int k, int... want) {
        for (int i = 0; i < want.length; i++) {
            due("cell " + i + " of SHEET " + k, x.cell(k, i, 2), want[i]);
        }
    }

    private static void copyToTheSame() {
        WishPins x = new WishPins();
        row(x, 2, 2, 1, 2, 3, 4, 5);
        due("upwards by one", x.copy(2, 0, 2, 1, 4), 4);
        cells(x, 2, 1, 1, 2, 3, 4);
        row(x, 2, 2, 1, 2, 3, 4, 5);
        due("downwards by one", x.copy(2, 1, 2, 0, 4), 4);
        cells(x, 2, 2, 3, 4, 5, 5);
        due("onto itself", x.copy(2, 0, 2, 0, 5), 5);
        cells(x, 2, 2, 3, 4, 5, 5);
    }

    private static void copyAll() {
        WishPins x = withTwoRows();
        due("all", x.copy(0, 0, 3, 2, 4), 4);
        cells(x, 3, 4, 0, -1, -2, -3, -4);
        cells(x, 0, -1, -2, -3, -4);
        x.sheet(0, 0, 60);
        x.sheet(1, 0, 60);
        x.put(0, 0, -128);
        x.put(0, 59, 127);
        due("sixty", x.copy(0, 0, 1, 0, 60), 60);
        due("the first", x.cell(1, 0, 0), -128);
        due("the last", x.cell(1, 59, 0), 127);
    }

    private static void copyOrder() {
        leaves(EdgesTest::wet, "SHEET, NULL, INDEX", x -> x.copy(4, -1, 0, -1, -1), UNKNOWN, NO_FAULT);
        leaves(EdgesTest::wet, "the other SHEET, NULL, INDEX", x -> x.copy(0, -1, 4, -1, -1), UNKNOWN, NO_FAULT);
        fails(EdgesTest::wet, "NULL, INDEX", x -> x.copy(0, -1, 3, -1, -1), NULL);
        fails(EdgesTest::wet, "NULL (the other), INDEX", x -> x.copy(3, -1, 0, -1, -1), NULL);
        fails(EdgesTest::wet, "CAST, INDEX", x -> x.copy(3, -1, 1, -1, -1), CAST);
    }

    // ---- 5 parts

    private static void edgesOfParts() {
        edge(26, "UNKNOWN", () -> unknownPins(WishPins::tell));
        edge(26, "PLAIN (1): BEND", EdgesTest::tellPlain);
        edge(26, "CROOK (2): what PLAIN's gives, and 100", EdgesTest::tellCrook);
        edge(26, "DOUBLE (3): what CROOK's gives, and what PLAIN's gives (CROOK's left out)", EdgesTest::tellDouble);
        edge(27, "UNKNOWN", () -> unknownPins(WishPins::splash));
        edge(27, "by a lent body (4): the number of the PIN", EdgesTest::splashLent);
        edge(27, "DOUBLE ones have their own (5): 50", EdgesTest::splashDouble);
        edge(28, "UNKNOWN", () -> unknownOfAs());
        edge(28, "OUTSIDE", EdgesTest::asOutside);
        edge(28, "CAST: it is none", EdgesTest::asCast);
        edge(28, "1 CROOK (c), a PLAIN one; 2 DOUBLE (d), a CROOK", EdgesTest::asOne);
        edge(28, ORDER, () -> leaves(EdgesTest::wet, "PIN, kind", x -> x.as(4, 3), UNKNOWN, NO_FAULT));
        edge(29, "0 at first", EdgesTest::traceAtFirst);
        edge(29, "an int that wraps", EdgesTest::traceWraps);
        edge(29, "becomes 31 times it and the number", EdgesTest::traceGrows);
        edge(30, "(0 ahead of any)", EdgesTest::faultAtFirst);
        edge(30, "0: it came to none", EdgesTest::faultNone);
        edge(30, "or was refused", EdgesTest::faultRefused);
        edge(30, "The FAULT of the latest call that names one", EdgesTest::faultKept);
        edge(30, "it answers -10 less it", EdgesTest::faultNumbers);
        edge(30, "They change nothing (but fault(), of a call that names FAULTS)", EdgesTest::refusedAll);
        edge(31, "OUTSIDE", EdgesTest::manyOutside);
        edge(31, "(0 all without a WELL)", EdgesTest::manyWithout);
        edge(31, "0 PINS, 1 SLOPE, 2 DRIFT, 3 which YEAR it is, 4 READINGS", EdgesTest::manyMost);
    }

    private static void bodies(WishPins x, String call, int before, int... numbers) {
        int trace = before;
        for (int number : numbers) {
            trace = (int) (31L * trace + number);
        }
        due("TRACE behind " + call, x.trace(), trace);
    }

    private static void tellPlain() {
        for (int bend : new int[] {0, 9}) {
            WishPins x = made("w10;p" + bend + "0");
            due("BEND " + bend, x.tell(0), bend);
            bodies(x, "it", 0, 1);
        }
    }

    private static void tellCrook() {
        for (int bend : new int[] {0, 9}) {
            WishPins x = made("w10;c" + bend + "0");
            due("BEND " + bend, x.tell(0), bend + 100);
            bodies(x, "it", 0, 2, 1);
        }
    }

    private static void tellDouble() {
        for (int bend : new int[] {0, 9}) {
            WishPins x = made("w10;d" + bend + "0");
            due("BEND " + bend, x.tell(0), 2 * bend + 100);
            bodies(x, "it", 0, 3, 2, 1, 1);
        }
    }

    private static void splashLent() {
        WishPins x = made("w10;p10;c10;p10;c10;p10;c10;p10;c10;p10");
        int trace = 0;
        for (int k = 0; k < 9; k++) {
            due("PIN " + k, x.splash(k), k);
            bodies(x, "PIN " + k, trace, 4);
            trace = x.trace();
        }
    }

    private static void splashDouble() {
        WishPins x = made("w10;d10;p10;d90");
        due("PIN 0", x.splash(0), 50);
        bodies(x, "PIN 0", 0, 5);
        due("PIN 2", x.splash(2), 50);
        bodies(x, "PIN 2", 0, 5, 5);
    }

    private static void unknownOfAs() {
        for (int k : new int[] {-1, 4, 9, MIN, MAX}) {
            leaves(EdgesTest::wet, "PIN " + k, x -> x.as(k, 0), UNKNOWN, NO_FAULT);
        }
        leaves(EdgesTest::dry, "no PINS", x -> x.as(0, 0), UNKNOWN, NO_FAULT);
    }

    private static void asOutside() {
        for (int kind : new int[] {-1, 3, MIN, MAX}) {
            leaves(EdgesTest::wet, "kind " + kind, x -> x.as(0, kind), OUTSIDE, NO_FAULT);
            leaves(EdgesTest::wet, "kind " + kind, x -> x.as(2, kind), OUTSIDE, NO_FAULT);
        }
    }

    private static void asCast() {
        fails(EdgesTest::wet, "PLAIN as CROOK", x -> x.as(0, 1), CAST);
        fails(EdgesTest::wet, "PLAIN as DOUBLE", x -> x.as(0, 2), CAST);
        fails(EdgesTest::wet, "CROOK as DOUBLE", x -> x.as(1, 2), CAST);
    }

    private static void asOne() {
        for (int k = 0; k < 3; k++) {
            for (int kind = 0; kind <= k; kind++) {
                int pin = k;
                int asked = kind;
                leaves(EdgesTest::wet, "PIN of kind " + k + " as " + kind, x -> x.as(pin, asked), 1, NO_FAULT);
            }
        }
    }

    private static void traceAtFirst() {
        due("trace", new WishPins().trace(), 0);
        leaves(EdgesTest::dry, "trace", WishPins::trace, 0, KEPT);
    }

    private static void traceWraps() {
        WishPins x = made("w10;d10");
        int trace = 0;
        int below = 0;
        for (int i = 0; i < 60; i++) {
            x.splash(0);
            bodies(x, "splash " + i, trace, 5);
            trace = x.trace();
            below += trace < 0 ? 1 : 0;
        }
        due("some are below 0", below > 0 ? 1 : 0, 1);
        // 5 (31^6 + .. + 1) is 4,586,979,680: more than 2^32
        x = made("w10;d10");
        for (int i = 0; i < 7; i++) {
            x.splash(0);
        }
        due("the seventh", x.trace(), 5L * (887503681L + 28629151 + 923521 + 29791 + 961 + 31 + 1) - 4294967296L);
    }

    private static void traceGrows() {
        WishPins x = made("w10;p10;c10;d10");
        x.splash(0);
        due("0 and 4", x.trace(), 4);
        x.splash(2);
        due("31 times 4 and 5", x.trace(), 129);
        x.tell(0);
        due("31 times 129 and 1", x.trace(), 4000);
        x.tell(3);
        x.splash(3);
        due("refused ones leave nothing", x.trace(), 4000);
    }

    private static void faultAtFirst() {
        WishPins x = new WishPins();
        due("fault", x.fault(), 0);
        x.many(9);
        x.lose(9);
        due("fault behind refusals of calls that name none", x.fault(), 0);
    }

    /** Comes to INDEX, so that one sees whether the next call changes fault(). */
    private static WishPins failed() {
        WishPins x = wet();
        due("(a FAULT ahead)", x.put(3, -1, 0), -13);
        due("(a FAULT ahead)", x.fault(), INDEX);
        return x;
    }

    private static void faultIs(String call, ToLongFunction<WishPins> asked, int fault) {
        WishPins x = failed();
        asked.applyAsLong(x);
        due("fault() behind " + call, x.fault(), fault);
        due("fault() again", x.fault(), fault);
    }

    private static void faultNone() {
        faultIs("sheet", x -> x.sheet(0, 0, 0), 0);
        faultIs("put", x -> x.put(3, 0, 0), 0);
        faultIs("cell", x -> x.cell(3, 0, 2), 0);
        faultIs("copy", x -> x.copy(3, 0, 3, 0, 0), 0);
        faultIs("as", x -> x.as(0, 0), 0);
        faultIs("century", x -> x.century(3, 2, 0, 3, 0), 0);
        faultIs("century with a FIRST WRONG", x -> x.century(3, 2, 4, 1, 0), 0);
        faultIs("layers", x -> x.layers(3, 2, 0, -1), 0);
        faultIs("well with a FIRST FAULT", x -> x.well(3, 2, 0, 6), 0);
        faultIs("well", x -> text(x, "w10;p00"), 0);
        WishPins x = made("w10;p00");
        x.put(3, 7, 0);
        due("fault() ahead", x.fault(), INDEX);
        due("well", x.well(3, 2, 0, 7), 1);
        due("fault() behind a well that is taken", x.fault(), 0);
    }

    private static void faultRefused() {
        faultIs("well, UNKNOWN", x -> x.well(4, 0, 0, 0), 0);
        faultIs("well, OUTSIDE", x -> x.well(0, 3, 0, 0), 0);
        faultIs("century, UNKNOWN", x -> x.century(4, 0, 0, 0, 0), 0);
        faultIs("century, OUTSIDE", x -> x.century(3, 2, 0, 0, 5), 0);
        faultIs("century, OUTSIDE by a pair", x -> x.century(3, 2, 1, 2, 0), 0);
        faultIs("layers, UNKNOWN", x -> x.layers(4, 0, 0, 0), 0);
        faultIs("layers, OUTSIDE", x -> x.layers(3, 2, 0, 9), 0);
        faultIs("sheet, UNKNOWN", x -> x.sheet(4, 0, 0), 0);
        faultIs("sheet, OUTSIDE", x -> x.sheet(0, 3, 0), 0);
        faultIs("put, UNKNOWN", x -> x.put(4, 0, 0), 0);
        faultIs("cell, UNKNOWN", x -> x.cell(4, 0, 0), 0);
        faultIs("cell, OUTSIDE", x -> x.cell(3, 0, 3), 0);
        faultIs("copy, UNKNOWN", x -> x.copy(3, 0, 4, 0, 0), 0);
        faultIs("as, UNKNOWN", x -> x.as(4, 0), 0);
        faultIs("as, OUTSIDE", x -> x.as(0, 3), 0);
        WishPins x = dry();
        x.put(3, -1, 0);
        due("century, STATE", x.century(3, 2, 0, 0, 0), STATE);
        due("fault()", x.fault(), 0);
        x.put(3, -1, 0);
        due("layers, STATE", x.layers(3, 2, 0, 0), STATE);
        due("fault()", x.fault(), 0);
    }

    private static void faultKept() {
        WishPins x = failed();
        x.put(0, 0, 0);
        due("NULL", x.fault(), NULL);
        x.cell(3, 0, 0);
        due("CAST", x.fault(), CAST);
        x.sheet(3, 0, -1);
        due("SIZE", x.fault(), SIZE);
        x.as(0, 1);
        due("CAST of a PIN", x.fault(), CAST);
        faultIs("ofPin", y -> y.ofPin(0, 0), INDEX);
        faultIs("bend", y -> y.bend(0, 0), INDEX);
        faultIs("rekey", y -> y.rekey(1, 0), INDEX);
        faultIs("wished", y -> y.wished(0), INDEX);
        faultIs("throwIn", y -> y.throwIn(0, 0), INDEX);
        faultIs("fish", WishPins::fish, INDEX);
        faultIs("years", y -> y.years(1), INDEX);
        faultIs("quiet", y -> y.quiet(0), INDEX);
        faultIs("run", y -> y.run(0), INDEX);
        faultIs("shape", y -> y.shape(0, 0), INDEX);
        faultIs("reading", y -> y.reading(0, 0), INDEX);
        faultIs("back", y -> y.back(1), INDEX);
        faultIs("bends", y -> y.bends(0), INDEX);
        faultIs("kinds", y -> y.kinds(0), INDEX);
        faultIs("keys", y -> y.keys(0), INDEX);
        faultIs("odds", y -> y.odds(0, 0, 0), INDEX);
        faultIs("lose", y -> y.lose(3), INDEX);
        faultIs("tell", y -> y.tell(0), INDEX);
        faultIs("splash", y -> y.splash(0), INDEX);
        faultIs("trace", WishPins::trace, INDEX);
        faultIs("many", y -> y.many(0), INDEX);
    }

    private static void faultNumbers() {
        fails(EdgesTest::wet, "NULL", x -> x.put(0, 0, 0), 1);
        fails(EdgesTest::wet, "CAST", x -> x.copy(1, 0, 2, 0, 0), 2);
        fails(EdgesTest::wet, "CAST of a kind", x -> x.as(0, 2), 2);
        fails(EdgesTest::wet, "INDEX", x -> x.put(3, 6, 0), 3);
        fails(EdgesTest::wet, "SIZE", x -> x.sheet(0, 0, -1), 4);
        fails(EdgesTest::wet, "SIZE of a TEXT", x -> x.well(3, 2, 0, -1), 4);
    }

    /** One refusal of each kind of each call, one behind another. */
    private static int refuseAll(WishPins x) {
        long[] answers = {x.well(4, 0, 0, 0), x.well(0, 3, 0, 0), x.ofPin(9, 0), x.ofPin(0, 6), x.bend(9, 0),
            x.bend(0, 10), x.rekey(6, 0), x.rekey(1, 6), x.wished(6), x.throwIn(3, 0), x.throwIn(0, 10),
            x.throwIn(0, 0), x.years(0), x.century(4, 0, 0, 0, 0), x.century(3, 2, 0, 21, 0), x.century(3, 2, 1, 2, 0),
            x.quiet(2), x.run(2), x.shape(3, 0), x.shape(0, 6), x.layers(4, 0, 0, 0), x.layers(3, 2, 0, 9),
            x.reading(9, 0), x.reading(0, 6), x.reading(0, 0), x.back(9), x.bends(9), x.kinds(9), x.keys(3),
            x.odds(3, 0, 0), x.sheet(4, 0, 0), x.sheet(0, 0, 61), x.lose(4), x.put(4, 0, 0), x.cell(4, 0, 0),
            x.copy(0, 0, 4, 0, 0), x.tell(9), x.splash(9), x.as(9, 0), x.as(0, 3), x.many(5)};
        int refused = 0;
        for (long answer : answers) {
            refused += answer < 0 ? 1 : 0;
        }
        return refused;
    }

    private static void refusedAll() {
        leaves(EdgesTest::full, "all refusals", EdgesTest::refuseAll, 41, NO_FAULT);
    }

    private static void manyOutside() {
        for (int what : new int[] {-1, 5, 6, MIN, MAX}) {
            leaves(EdgesTest::wet, "what " + what, x -> x.many(what), OUTSIDE, KEPT);
            leaves(EdgesTest::dry, "what " + what, x -> x.many(what), OUTSIDE, KEPT);
        }
    }

    private static void manyWithout() {
        for (int what = 0; what <= 4; what++) {
            int asked = what;
            leaves(EdgesTest::dry, "what " + what, x -> x.many(asked), 0, KEPT);
        }
        WishPins x = dry();
        x.throwIn(0, 0);
        x.years(9);
        x.rekey(1, 1);
        x.reading(0, 0);
        x.well(3, 2, 0, 6);
        for (int what = 0; what <= 4; what++) {
            due("what " + what + " behind refusals", x.many(what), 0);
        }
    }

    private static void manyMost() {
        int[] most = {9, 1, 1, 9, 8};
        int[] some = {4, 2, 3, 12, 2};
        for (int what = 0; what <= 4; what++) {
            int asked = what;
            leaves(EdgesTest::full, "what " + what, x -> x.many(asked), most[what], KEPT);
            leaves(EdgesTest::wet, "what " + what, x -> x.many(asked), some[what], KEPT);
        }
    }
}
