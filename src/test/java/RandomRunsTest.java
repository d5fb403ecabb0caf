import java.util.ArrayList;
import java.util.List;
import java.util.Random;

/**
 * Runs of 512 calls, the most that an object is used for, told twice: by WishPins and by a plain second telling of
 * the document, which leaves CAST, NULL, INDEX, SIZE and the bodies to the Java machine and tries all orders one
 * by one.
 */
public final class RandomRunsTest {
    private static final int RUNS = 3000, CALLS = 512;
    private static final long LOST = Long.MIN_VALUE;
    private static final String[] NAMES = {"well", "ofPin", "bend", "rekey", "wished", "throwIn", "fish", "years",
        "century", "quiet", "run", "shape", "layers", "reading", "back", "bends", "kinds", "keys", "odds",
        "sheet", "lose", "put", "cell", "copy", "tell", "splash", "as", "trace", "fault", "many"};

    public static void main(String[] args) {
        int wrong = 0;
        long[] good = new long[NAMES.length];
        for (int run = 0; run < RUNS && wrong < 10; run++) {
            wrong += play(run, good);
        }
        for (int call = 0; call < NAMES.length; call++) {
            if (good[call] < 100) {
                wrong++;
                System.out.println(NAMES[call] + " was hardly ever answered well: " + good[call]);
            }
        }
        System.out.println(wrong == 0 ? "RandomRunsTest: all as due" : "RandomRunsTest: " + wrong + " not as due");
        if (wrong != 0) {
            System.exit(1);
        }
    }

    private static int play(int run, long[] good) {
        Random random = new Random(run);
        WishPins x = new WishPins();
        Model m = new Model();
        List<int[]> asked = new ArrayList<>();
        boolean wild = run % 4 < 2;
        // every other run looks at fault() and trace() behind each call: they are calls, too
        boolean looks = run % 2 == 0;
        int callsOfTurn = looks ? 3 : 1;
        for (int n = 0; n + callsOfTurn <= CALLS; n += callsOfTurn) {
            while (asked.isEmpty()) {
                prepare(random, m, asked, wild);
            }
            int[] c = asked.remove(0);
            long want = modelAnswers(m, c);
            long got = answers(x, c);
            if (want >= 0) {
                good[c[0]]++;
            }
            int fault = looks ? x.fault() : m.fault;
            int trace = looks ? x.trace() : m.trace;
            if (got != want || fault != m.fault || trace != m.trace) {
                System.out.println("run " + run + " call " + n + ": " + NAMES[c[0]] + " " + c[1] + " " + c[2] + " "
                    + c[3] + " " + c[4] + " " + c[5] + " answered " + got + ", due is " + want + "; fault "
                    + fault + ", due is " + m.fault + "; trace " + trace + ", due is " + m.trace);
                return 1;
            }
        }
        return 0;
    }

    /** One call, or a row of puts with a call that reads them behind it. */
    private static void prepare(Random r, Model m, List<int[]> asked, boolean wild) {
        int k = r.nextInt(4);
        int lane = r.nextInt(3);
        switch (r.nextInt(12)) {
            case 0:
                if (!m.pins.isEmpty() && r.nextInt(8) != 0) {
                    return;
                }
                int[] codes = text(r);
                fill(r, asked, k, lane, codes);
                asked.add(new int[] {0, k, lane, 0, r.nextInt(6) == 0 ? r.nextInt(45) : codes.length, 0});
                return;
            case 1:
                int acts = r.nextInt(4) == 0 ? r.nextInt(21) : r.nextInt(6);
                int[] pairs = new int[2 * acts];
                boolean fishing = r.nextBoolean();
                for (int act = 0; act < acts; act++) {
                    int second = fishing && r.nextBoolean() ? 4 : r.nextInt(5);
                    pairs[2 * act] = second < 3 ? r.nextInt(10) : second == 3 ? r.nextInt(100) : 0;
                    pairs[2 * act + 1] = second;
                    if (r.nextInt(60) == 0) {
                        pairs[2 * act + r.nextInt(2)] = r.nextInt(120) - 10;
                    }
                }
                fill(r, asked, k, lane, pairs);
                for (int what : new int[] {0, 1, 2, 3, 4, 10 + r.nextInt(9)}) {
                    asked.add(new int[] {8, k, lane, 0, acts, what});
                }
                return;
            case 2:
                int[] row = new int[m.pins.size()];
                for (int i = 0; i < row.length; i++) {
                    boolean any = r.nextInt(3) == 0 && (row.length < 8 || i > 3);
                    row[i] = any ? 6 : r.nextBoolean() ? m.wish(m.pins.get(i)) : r.nextInt(6);
                    if (r.nextInt(80) == 0) {
                        row[i] = r.nextInt(12) - 3;
                    }
                }
                fill(r, asked, k, lane, row);
                for (int place = -1; place < 9; place += 1 + r.nextInt(3)) {
                    asked.add(new int[] {12, k, lane, 0, place, 0});
                }
                return;
            default:
                asked.add(single(r, m, wild));
        }
    }

    private static void fill(Random r, List<int[]> asked, int k, int lane, int[] numbers) {
        asked.add(new int[] {19, k, lane, numbers.length + r.nextInt(2), 0, 0});
        for (int i = 0; i < numbers.length; i++) {
            if (numbers[i] != 0) {
                asked.add(new int[] {21, k, i, numbers[i], 0, 0});
            }
        }
    }

    private static int[] text(Random r) {
        StringBuilder t = new StringBuilder();
        t.append('w').append(1 + r.nextInt(5)).append(r.nextInt(6));
        int pins = 1 + r.nextInt(9) + (r.nextInt(20) == 0 ? 1 : 0);
        for (int k = 0; k < pins; k++) {
            t.append(';').append("pcd".charAt(r.nextInt(3))).append(r.nextInt(10)).append(r.nextInt(10));
        }
        int[] codes = new int[t.length()];
        for (int i = 0; i < codes.length; i++) {
            codes[i] = t.charAt(i);
        }
        if (r.nextInt(8) == 0) {
            codes[r.nextInt(codes.length)] = "wpcd;0123456789x/:".charAt(r.nextInt(18));
        }
        return codes;
    }

    private static int[] single(Random r, Model m, boolean wild) {
        int call = 1 + r.nextInt(29);
        int pin = r.nextInt(12) == 0 ? r.nextInt(12) - 2 : r.nextInt(Math.max(1, m.pins.size()));
        int[] c = {call, 0, 0, 0, 0, 0};
        for (int i = 1; i < 6; i++) {
            c[i] = wild && r.nextInt(4) == 0 ? odd(r) : r.nextInt(4) == 0 ? r.nextInt(70) - 4 : r.nextInt(8) - 1;
        }
        if (call == 1 || call == 2 || call == 13 || call == 15 || call == 16 || call >= 24 && call <= 26) {
            c[1] = pin;
        }
        if (call == 13 && pin >= 0 && pin < m.pins.size() && r.nextInt(4) != 0) {
            c[2] = m.wish(m.pins.get(pin));
        }
        if (call == 23 && r.nextInt(3) != 0) {
            c[1] = r.nextInt(4);
            c[3] = r.nextInt(3) == 0 ? r.nextInt(4) : c[1];
            c[2] = r.nextInt(6);
            c[4] = r.nextInt(6);
            c[5] = r.nextInt(6);
        }
        if (call == 6 && r.nextInt(3) != 0) {
            c[0] = 5;
        }
        if (call == 14 && r.nextBoolean()) {
            c[1] = r.nextInt(2);
        }
        if (call == 20 && r.nextInt(3) != 0) {
            c[0] = 19;
        }
        return c;
    }

    private static int odd(Random r) {
        int[] odd = {Integer.MIN_VALUE, Integer.MAX_VALUE, Integer.MIN_VALUE + 1, Integer.MAX_VALUE - 1, -100, 100,
            255, 256, 32767, 32768, 65536, 1 << 30, -(1 << 30)};
        return odd[r.nextInt(odd.length)];
    }

    private static long answers(WishPins x, int[] c) {
        switch (c[0]) {
            case 0: return x.well(c[1], c[2], c[3], c[4]);
            case 1: return x.ofPin(c[1], c[2]);
            case 2: return x.bend(c[1], c[2]);
            case 3: return x.rekey(c[1], c[2]);
            case 4: return x.wished(c[1]);
            case 5: return x.throwIn(c[1], c[2]);
            case 6: return x.fish();
            case 7: return x.years(c[1]);
            case 8: return x.century(c[1], c[2], c[3], c[4], c[5]);
            case 9: return x.quiet(c[1]);
            case 10: return x.run(c[1]);
            case 11: return x.shape(c[1], c[2]);
            case 12: return x.layers(c[1], c[2], c[3], c[4]);
            case 13: return x.reading(c[1], c[2]);
            case 14: return x.back(c[1]);
            case 15: return x.bends(c[1]);
            case 16: return x.kinds(c[1]);
            case 17: return x.keys(c[1]);
            case 18: return x.odds(c[1], c[2], c[3]);
            case 19: return x.sheet(c[1], c[2], c[3]);
            case 20: return x.lose(c[1]);
            case 21: return x.put(c[1], c[2], c[3]);
            case 22: return x.cell(c[1], c[2], c[3]);
            case 23: return x.copy(c[1], c[2], c[3], c[4], c[5]);
            case 24: return x.tell(c[1]);
            case 25: return x.splash(c[1]);
            case 26: return x.as(c[1], c[2]);
            case 27: return x.trace();
            case 28: return x.fault();
            default: return x.many(c[1]);
        }
    }

    private static boolean namesFaults(int call) {
        return call == 0 || call == 8 || call == 12 || call == 19 || call >= 21 && call <= 23 || call == 26;
    }

    private static long modelAnswers(Model m, int[] c) {
        int fault = 0;
        long answer = 0;
        try {
            answer = m.answer(c);
        } catch (NullPointerException e) {
            fault = 1;
        } catch (ClassCastException e) {
            fault = 2;
        } catch (ArrayStoreException e) {
            fault = 2;
        } catch (IndexOutOfBoundsException e) {
            fault = 3;
        } catch (NegativeArraySizeException e) {
            fault = 4;
        }
        if (namesFaults(c[0])) {
            m.fault = fault;
        }
        return fault == 0 ? answer : c[0] == 22 ? LOST : -10 - fault;
    }

    private interface Splashed {
        default int splashed(Model m, int k) {
            m.begin(4);
            return k;
        }
    }

    private static class Plain implements Splashed {
        int bend;
        final int year;

        Plain(int bend, int year) {
            this.bend = bend;
            this.year = year;
        }

        int kind() {
            return 0;
        }

        int turn() {
            return bend;
        }

        int told(Model m) {
            return toldPlainly(m);
        }

        final int toldPlainly(Model m) {
            m.begin(1);
            return bend;
        }
    }

    private static class Crook extends Plain {
        Crook(int bend, int year) {
            super(bend, year);
        }

        @Override int kind() {
            return 1;
        }

        @Override int turn() {
            return super.turn() + 1;
        }

        @Override int told(Model m) {
            m.begin(2);
            return super.told(m) + 100;
        }
    }

    private static final class Twice extends Crook {
        Twice(int bend, int year) {
            super(bend, year);
        }

        @Override int kind() {
            return 2;
        }

        @Override int turn() {
            return 2 * super.turn();
        }

        @Override int told(Model m) {
            m.begin(3);
            return super.told(m) + toldPlainly(m);
        }

        @Override public int splashed(Model m, int k) {
            m.begin(5);
            return 50;
        }
    }

    private static Plain pin(int kind, int bend, int year) {
        return kind == 0 ? new Plain(bend, year) : kind == 1 ? new Crook(bend, year) : new Twice(bend, year);
    }

    private static final class Model {
        List<Plain> pins = new ArrayList<>();
        List<int[]> readings = new ArrayList<>();
        final Object[] sheets = new Object[4];
        int slope, drift, now, trace, fault;

        void begin(int body) {
            trace = 31 * trace + body;
        }

        int wish(Plain p) {
            return (slope * p.turn() + drift * p.year) % 6;
        }

        static boolean in(int v, int low, int high) {
            return low <= v && v <= high;
        }

        long answer(int[] c) {
            return c[0] < 9 ? first(c) : c[0] < 19 ? second(c) : third(c);
        }

        private long first(int[] c) {
            int a = c[1];
            int b = c[2];
            boolean well = !pins.isEmpty();
            boolean known = in(a, 0, pins.size() - 1);
            switch (c[0]) {
                case 0:
                    return well(a, b, c[3], c[4]);
                case 1:
                    if (!known) return -1;
                    if (!in(b, 0, 5)) return -2;
                    Plain p = pins.get(a);
                    return new int[] {p.kind(), p.bend, p.year, p.turn(), wish(p), now - p.year}[b];
                case 2:
                    if (!known) return -1;
                    if (!in(b, 0, 9)) return -2;
                    int before = pins.get(a).bend;
                    pins.get(a).bend = b;
                    return before;
                case 3:
                    if (!well) return -3;
                    if (!in(a, 1, 5) || !in(b, 0, 5)) return -2;
                    int key = 10 * slope + drift;
                    slope = a;
                    drift = b;
                    return key;
                case 4:
                    if (!well) return -3;
                    if (!in(a, 0, 5)) return -2;
                    int set = 0;
                    for (int k = 0; k < pins.size(); k++) {
                        set += wish(pins.get(k)) == a ? 1 << k : 0;
                    }
                    return set;
                case 5:
                    if (!in(a, 0, 2) || !in(b, 0, 9)) return -2;
                    if (!well) return -3;
                    if (pins.size() == 9) return -4;
                    pins.add(pin(a, b, now));
                    return wish(pins.get(pins.size() - 1));
                case 6:
                    if (pins.size() < 2) return -3;
                    readings.clear();
                    return wish(pins.remove(pins.size() - 1));
                case 7:
                    if (!in(a, 1, 99)) return -2;
                    if (!well) return -3;
                    now += a;
                    return now;
                default:
                    return century(a, b, c[3], c[4], c[5]);
            }
        }

        /** The machine's own order: the cast (which lets null by), the length of null, a new array, a copy. */
        private int[] cells(Object row, int lane, int i, int n) {
            byte[] bytes = lane == 0 ? (byte[]) row : null;
            short[] shorts = lane == 1 ? (short[]) row : null;
            int[] ints = lane == 2 ? (int[]) row : null;
            int length = lane == 0 ? bytes.length : lane == 1 ? shorts.length : ints.length;
            int[] out = new int[n];
            if (i < 0 || i > length || (long) i + n > length) {
                throw new IndexOutOfBoundsException();
            }
            for (int j = 0; j < n; j++) {
                out[j] = lane == 0 ? bytes[i + j] : lane == 1 ? shorts[i + j] : ints[i + j];
            }
            return out;
        }

        private int well(int sheet, int lane, int i, int n) {
            if (!in(sheet, 0, 3)) return -1;
            if (!in(lane, 0, 2)) return -2;
            if (n > 1000000) {
                // lest a huge array be made ahead of INDEX
                cells(sheets[sheet], lane, 0, 0);
                return -13 + store(3);
            }
            int[] codes = cells(sheets[sheet], lane, i, n);
            StringBuilder text = new StringBuilder();
            for (int place = 0; place < n; place++) {
                text.append((char) codes[place]);
                if (codes[place] < 0 || !couldBegin(text.toString())) return -100 - place;
            }
            if (!text.toString().matches("w[1-5][0-5](;[pcd][0-9][0-9]){1,9}")) return -100 - n;
            pins = new ArrayList<>();
            readings = new ArrayList<>();
            slope = text.charAt(1) - '0';
            drift = text.charAt(2) - '0';
            now = 0;
            for (String part : text.substring(4).split(";")) {
                now += part.charAt(2) - '0';
                pins.add(pin("pcd".indexOf(part.charAt(0)), part.charAt(1) - '0', now));
            }
            return pins.size();
        }

        private int store(int ignored) {
            throw new IndexOutOfBoundsException();
        }

        private static boolean couldBegin(String text) {
            String whole = "w10;p00;p00;p00;p00;p00;p00;p00;p00;p00";
            return text.length() <= whole.length()
                && (text + whole.substring(text.length())).matches("w[1-5][0-5](;[pcd][0-9][0-9]){9}");
        }

        private int century(int sheet, int lane, int i, int n, int what) {
            if (!in(sheet, 0, 3)) return -1;
            if (!in(lane, 0, 2) || !in(n, 0, 20) || !in(what, 0, 4) && !in(what, 10, 18)) return -2;
            if (pins.isEmpty()) return -3;
            int[] acts = cells(sheets[sheet], lane, i, 2 * n);
            for (int k = 0; k < n; k++) {
                int most = in(acts[2 * k + 1], 0, 2) ? 9 : acts[2 * k + 1] == 3 ? 99 : acts[2 * k + 1] == 4 ? 0 : -1;
                if (!in(acts[2 * k], 0, most)) return -2;
            }
            List<Plain> then = new ArrayList<>(pins);
            int year = now;
            int same = 0;
            for (int k = 0; k < n; k++) {
                int act = acts[2 * k + 1];
                if (act == 3) {
                    year += acts[2 * k];
                } else if (act == 4) {
                    if (then.size() == 1) return what == 1 ? k : -100 - k;
                    then.remove(then.size() - 1);
                } else {
                    if (then.size() == 9) return what == 1 ? k : -100 - k;
                    Plain p = pin(act, acts[2 * k], year);
                    same += wish(p) == wish(then.get(then.size() - 1)) ? 1 : 0;
                    then.add(p);
                }
            }
            int all = 0;
            for (Plain p : then) {
                all |= 1 << wish(p);
            }
            if (what >= 10) return what - 10 < then.size() ? wish(then.get(what - 10)) : -9;
            return new int[] {then.size(), -9, same, year, all}[what];
        }

        private long second(int[] c) {
            int a = c[1];
            int b = c[2];
            boolean well = !pins.isEmpty();
            boolean known = in(a, 0, pins.size() - 1);
            switch (c[0]) {
                case 9:
                    if (!well) return -3;
                    return in(a, 0, 1) ? quiet()[a] : -2;
                case 10:
                    if (!well) return -3;
                    return in(a, 0, 1) ? run()[a] : -2;
                case 11:
                    if (!well) return -3;
                    if (!in(a, 0, 2) || !in(b, 0, 5)) return -2;
                    for (int bend = 0; bend < 10; bend++) {
                        if (wish(pin(a, bend, now)) == b) return bend;
                    }
                    return -9;
                case 12:
                    return layers(a, b, c[3], c[4]);
                case 13:
                    if (!known) return -1;
                    if (!in(b, 0, 5)) return -2;
                    if (readings.size() == 8) return -4;
                    readings.add(new int[] {a, b});
                    return readings.size() - 1;
                case 14:
                    if (!in(a, 0, readings.size())) return -2;
                    for (int k = 0; k < a; k++) {
                        readings.remove(readings.size() - 1);
                    }
                    return readings.size();
                case 15:
                case 16:
                    if (!known) return -1;
                    return whatItMayBe(a, c[0] == 15);
                case 17:
                    if (!well) return -3;
                    return in(a, 0, 2) ? keys()[a] : -2;
                default:
                    if (!in(a, 0, 2) || !in(b, 0, 5) || !in(c[3], 0, 1) || !well) return LOST;
                    int upper = 0;
                    for (int bend = 0; bend < 10; bend++) {
                        upper += wish(pin(a, bend, now)) == b ? 1 : 0;
                    }
                    int shared = java.math.BigInteger.valueOf(upper).gcd(java.math.BigInteger.TEN).intValue();
                    return (c[3] == 0 ? upper : 10) / shared;
            }
        }

        private int[] quiet() {
            int[] best = {-1, 0};
            for (int k = -1; k < pins.size(); k++) {
                int from = k < 0 ? 0 : pins.get(k).year;
                int till = k + 1 < pins.size() ? pins.get(k + 1).year : now;
                best = till - from > best[0] ? new int[] {till - from, from} : best;
            }
            return best;
        }

        private int[] run() {
            for (int many = pins.size(); many > 0; many--) {
                for (int k = 0; k + many <= pins.size(); k++) {
                    int alike = 0;
                    for (int j = k; j < k + many; j++) {
                        alike += wish(pins.get(j)) == wish(pins.get(k)) ? 1 : 0;
                    }
                    if (alike == many) return new int[] {many, k};
                }
            }
            throw new IllegalStateException("a run of none");
        }

        private boolean allSo() {
            for (int[] r : readings) {
                if (wish(pins.get(r[0])) != r[1]) return false;
            }
            return true;
        }

        private int whatItMayBe(int k, boolean bends) {
            Plain is = pins.get(k);
            int set = 0;
            for (int v = 0; v < (bends ? 10 : 3); v++) {
                pins.set(k, bends ? pin(is.kind(), v, is.year) : pin(v, is.bend, is.year));
                set += allSo() ? 1 << v : 0;
            }
            pins.set(k, is);
            return set;
        }

        private int[] keys() {
            int hadSlope = slope;
            int hadDrift = drift;
            List<Integer> fit = new ArrayList<>();
            for (int key = 10; key <= 55; key++) {
                slope = key / 10;
                drift = key % 10;
                if (drift <= 5 && allSo()) {
                    fit.add(key);
                }
            }
            slope = hadSlope;
            drift = hadDrift;
            int n = fit.size();
            return new int[] {n, n == 0 ? -9 : fit.get(0), n == 0 ? -9 : fit.get(n - 1)};
        }

        private int layers(int sheet, int lane, int i, int k) {
            if (!in(sheet, 0, 3)) return -1;
            if (!in(lane, 0, 2) || !in(k, -1, 8)) return -2;
            if (pins.isEmpty()) return -3;
            int[] row = cells(sheets[sheet], lane, i, pins.size());
            for (int v : row) {
                if (!in(v, 0, 6)) return -2;
            }
            int[] first = new int[pins.size()];
            int ways = orders(row, 0, new int[pins.size()], new boolean[pins.size()], first, 0);
            return k < 0 ? ways : ways == 0 || k >= pins.size() ? -9 : first[k];
        }

        private int orders(int[] row, int place, int[] order, boolean[] used, int[] first, int found) {
            if (place == row.length) {
                if (found == 0) {
                    System.arraycopy(order, 0, first, 0, order.length);
                }
                return found + 1;
            }
            for (int p = 0; p < used.length; p++) {
                int v = (slope * pins.get(p).turn() + drift * pins.get(place).year) % 6;
                if (!used[p] && (row[place] == 6 || row[place] == v)) {
                    used[p] = true;
                    order[place] = p;
                    found = orders(row, place + 1, order, used, first, found);
                    used[p] = false;
                }
            }
            return found;
        }

        private long third(int[] c) {
            int a = c[1];
            int b = c[2];
            boolean sheet = in(a, 0, 3);
            boolean known = in(a, 0, pins.size() - 1);
            switch (c[0]) {
                case 19:
                    if (!sheet) return -1;
                    if (!in(b, 0, 2) || c[3] > 60) return -2;
                    sheets[a] = b == 0 ? new byte[c[3]] : b == 1 ? (Object) new short[c[3]] : new int[c[3]];
                    return 1;
                case 20:
                    if (!sheet) return -1;
                    boolean had = sheets[a] != null;
                    sheets[a] = null;
                    return had ? 1 : 0;
                case 21:
                    if (!sheet) return -1;
                    if (sheets[a] instanceof byte[]) {
                        ((byte[]) sheets[a])[b] = (byte) c[3];
                    } else if (sheets[a] instanceof short[]) {
                        ((short[]) sheets[a])[b] = (short) c[3];
                    } else {
                        ((int[]) sheets[a])[b] = c[3];
                    }
                    return 1;
                case 22:
                    if (!sheet || !in(c[3], 0, 2)) return LOST;
                    return c[3] == 0 ? ((byte[]) sheets[a])[b]
                        : c[3] == 1 ? ((short[]) sheets[a])[b] : ((int[]) sheets[a])[b];
                case 23:
                    if (!sheet || !in(c[3], 0, 3)) return -1;
                    System.arraycopy(sheets[a], b, sheets[c[3]], c[4], c[5]);
                    return c[5];
                case 24:
                    return known ? pins.get(a).told(this) : -1;
                case 25:
                    return known ? pins.get(a).splashed(this, a) : -1;
                case 26:
                    if (!known) return -1;
                    if (!in(b, 0, 2)) return -2;
                    Plain as = b == 0 ? pins.get(a) : b == 1 ? (Crook) pins.get(a) : (Twice) pins.get(a);
                    return as == null ? 0 : 1;
                case 27:
                    return trace;
                case 28:
                    return fault;
                default:
                    if (!in(a, 0, 4)) return -2;
                    return new int[] {pins.size(), slope, drift, now, readings.size()}[a];
            }
        }
    }
}
