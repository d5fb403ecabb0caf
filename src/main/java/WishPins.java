/**
 * Bent pins in a wishing well: what was wished, when, and by which key.
 * ../shared/DOC.md promises what each call answers; words in capitals are its terms.
 *
 * All rows are made once, in the constructors, so that no call makes an object.
 */
public final class WishPins {
    public static final int UNKNOWN = -1, OUTSIDE = -2, STATE = -3, FULL = -4, NONE = -9;
    public static final long LOST = Long.MIN_VALUE;

    private static final int NO_FAULT = 0, NULL = 1, CAST = 2, INDEX = 3, SIZE = 4;
    private static final int PLAIN = 0, CROOK = 1, DOUBLE = 2;
    private static final int BENDS = 10, WISHES = 6, ANY_WISH = 6;
    private static final int LEAST_SLOPE = 1, MOST_SLOPE = 5, MOST_DRIFT = 5;
    private static final int MOST_PINS = 9, MOST_READINGS = 8, MOST_ACTS = 20, MOST_YEARS = 99;
    private static final int SHEETS = 4, LANES = 3, MOST_CELLS = 60;
    private static final int YEARS_PASS = 3, TOP_IS_FISHED = 4;
    private static final int CODES_OF_KEY = 3, CODES_OF_PIN = 4;

    private final Well lying = new Well();
    private final Readings readings = new Readings();
    private final Century future = new Century();
    private final Layers orders = new Layers();
    private final Sheet[] sheets = new Sheet[SHEETS];
    private int traced;
    private int latestFault;

    public WishPins() {
        for (int k = 0; k < SHEETS; k++) {
            sheets[k] = new Sheet();
        }
    }

    // ---- 1 the well

    public int well(int sheet, int lane, int i, int n) {
        latestFault = NO_FAULT;
        if (!isSheet(sheet)) {
            return UNKNOWN;
        }
        if (!isLane(lane)) {
            return OUTSIDE;
        }
        Sheet text = sheets[sheet];
        int fault = text.faultAs(lane);
        if (fault == NO_FAULT && n < 0) {
            fault = SIZE;
        }
        if (fault == NO_FAULT && !text.hasCells(i, n)) {
            fault = INDEX;
        }
        if (fault != NO_FAULT) {
            return failed(fault);
        }
        int wrong = firstFault(text, i, n);
        if (wrong != NONE) {
            return -100 - wrong;
        }
        lying.fill(text, i, n);
        readings.clear();
        return lying.pins;
    }

    public int ofPin(int k, int what) {
        if (!lying.isPin(k)) {
            return UNKNOWN;
        }
        switch (what) {
            case 0:
                return lying.kindAt(k);
            case 1:
                return lying.bendAt(k);
            case 2:
                return lying.yearAt(k);
            case 3:
                return turnOf(lying.kindAt(k), lying.bendAt(k));
            case 4:
                return lying.wishAt(k);
            case 5:
                return lying.now - lying.yearAt(k);
            default:
                return OUTSIDE;
        }
    }

    public int bend(int k, int v) {
        if (!lying.isPin(k)) {
            return UNKNOWN;
        }
        if (!isBend(v)) {
            return OUTSIDE;
        }
        int before = lying.bendAt(k);
        lying.setBend(k, v);
        return before;
    }

    public int rekey(int slope, int drift) {
        if (!hasWell()) {
            return STATE;
        }
        if (slope < LEAST_SLOPE || slope > MOST_SLOPE || drift < 0 || drift > MOST_DRIFT) {
            return OUTSIDE;
        }
        int before = keyNumber(lying.slope, lying.drift);
        lying.slope = slope;
        lying.drift = drift;
        return before;
    }

    public int wished(int v) {
        if (!hasWell()) {
            return STATE;
        }
        if (!isWish(v)) {
            return OUTSIDE;
        }
        int set = 0;
        for (int k = 0; k < lying.pins; k++) {
            if (lying.wishAt(k) == v) {
                set |= 1 << k;
            }
        }
        return set;
    }

    // ---- 2 what is thrown

    public int throwIn(int kind, int bend) {
        if (!isKind(kind) || !isBend(bend)) {
            return OUTSIDE;
        }
        if (!hasWell()) {
            return STATE;
        }
        if (!lying.addTop(kind, bend)) {
            return FULL;
        }
        return lying.wishAt(lying.pins - 1);
    }

    public int fish() {
        int wish = lying.wishAt(lying.pins - 1);
        if (!lying.dropTop()) {
            return STATE;
        }
        readings.clear();
        return wish;
    }

    public int years(int n) {
        if (n < 1 || n > MOST_YEARS) {
            return OUTSIDE;
        }
        if (!hasWell()) {
            return STATE;
        }
        lying.now += n;
        return lying.now;
    }

    public int century(int sheet, int lane, int i, int n, int what) {
        latestFault = NO_FAULT;
        if (!isSheet(sheet)) {
            return UNKNOWN;
        }
        if (!isLane(lane) || n < 0 || n > MOST_ACTS || !isToldOfCentury(what)) {
            return OUTSIDE;
        }
        if (!hasWell()) {
            return STATE;
        }
        Sheet acts = sheets[sheet];
        int fault = acts.faultOfCells(lane, i, 2 * n);
        if (fault != NO_FAULT) {
            return failed(fault);
        }
        for (int act = 0; act < n; act++) {
            if (!isAct(acts.at(i + 2 * act), acts.at(i + 2 * act + 1))) {
                return OUTSIDE;
            }
        }
        future.play(lying, acts, i, n);
        return future.told(what);
    }

    // ---- 3 what was wanted

    public int quiet(int what) {
        if (!hasWell()) {
            return STATE;
        }
        if (what != 0 && what != 1) {
            return OUTSIDE;
        }
        int longest = -1;
        int longestFrom = 0;
        int from = 0;
        for (int k = 0; k <= lying.pins; k++) {
            int till = k < lying.pins ? lying.yearAt(k) : lying.now;
            if (till - from > longest) {
                longest = till - from;
                longestFrom = from;
            }
            from = till;
        }
        return what == 0 ? longest : longestFrom;
    }

    public int run(int what) {
        if (!hasWell()) {
            return STATE;
        }
        if (what != 0 && what != 1) {
            return OUTSIDE;
        }
        int most = 0;
        int mostFrom = 0;
        int from = 0;
        for (int k = 0; k < lying.pins; k++) {
            if (lying.wishAt(k) != lying.wishAt(from)) {
                from = k;
            }
            if (k - from + 1 > most) {
                most = k - from + 1;
                mostFrom = from;
            }
        }
        return what == 0 ? most : mostFrom;
    }

    public int shape(int kind, int v) {
        if (!hasWell()) {
            return STATE;
        }
        if (!isKind(kind) || !isWish(v)) {
            return OUTSIDE;
        }
        for (int bend = 0; bend < BENDS; bend++) {
            if (lying.wishNow(kind, bend) == v) {
                return bend;
            }
        }
        return NONE;
    }

    public int layers(int sheet, int lane, int i, int k) {
        latestFault = NO_FAULT;
        if (!isSheet(sheet)) {
            return UNKNOWN;
        }
        if (!isLane(lane) || k < -1 || k >= MOST_PINS) {
            return OUTSIDE;
        }
        if (!hasWell()) {
            return STATE;
        }
        Sheet row = sheets[sheet];
        int fault = row.faultOfCells(lane, i, lying.pins);
        if (fault != NO_FAULT) {
            return failed(fault);
        }
        for (int place = 0; place < lying.pins; place++) {
            int v = row.at(i + place);
            if (!isWish(v) && v != ANY_WISH) {
                return OUTSIDE;
            }
        }
        orders.ask(lying, row, i);
        return k < 0 ? orders.ways : orders.firstAt(k);
    }

    // ---- 4 what it wished

    public int reading(int k, int v) {
        if (!lying.isPin(k)) {
            return UNKNOWN;
        }
        if (!isWish(v)) {
            return OUTSIDE;
        }
        int number = readings.count;
        if (!readings.add(k, v)) {
            return FULL;
        }
        return number;
    }

    public int back(int k) {
        if (k < 0 || k > readings.count) {
            return OUTSIDE;
        }
        readings.count -= k;
        return readings.count;
    }

    public int bends(int k) {
        if (!lying.isPin(k)) {
            return UNKNOWN;
        }
        int set = 0;
        for (int bend = 0; bend < BENDS; bend++) {
            if (readings.areSoWith(lying, k, turnOf(lying.kindAt(k), bend))) {
                set |= 1 << bend;
            }
        }
        return set;
    }

    public int kinds(int k) {
        if (!lying.isPin(k)) {
            return UNKNOWN;
        }
        int set = 0;
        for (int kind = PLAIN; kind <= DOUBLE; kind++) {
            if (readings.areSoWith(lying, k, turnOf(kind, lying.bendAt(k)))) {
                set |= 1 << kind;
            }
        }
        return set;
    }

    public int keys(int what) {
        if (!hasWell()) {
            return STATE;
        }
        if (what < 0 || what > 2) {
            return OUTSIDE;
        }
        int count = 0;
        int least = NONE;
        int greatest = NONE;
        for (int slope = LEAST_SLOPE; slope <= MOST_SLOPE; slope++) {
            for (int drift = 0; drift <= MOST_DRIFT; drift++) {
                if (readings.areSoByKey(lying, slope, drift)) {
                    count++;
                    greatest = keyNumber(slope, drift);
                    least = least == NONE ? greatest : least;
                }
            }
        }
        if (what == 0) {
            return count;
        }
        return what == 1 ? least : greatest;
    }

    public long odds(int kind, int v, int which) {
        if (!isKind(kind) || !isWish(v) || (which != 0 && which != 1) || !hasWell()) {
            return LOST;
        }
        int fitting = 0;
        for (int bend = 0; bend < BENDS; bend++) {
            if (lying.wishNow(kind, bend) == v) {
                fitting++;
            }
        }
        int divisor = greatestShared(fitting, BENDS);
        return which == 0 ? fitting / divisor : BENDS / divisor;
    }

    // ---- 5 sheets, parts

    public int sheet(int k, int lane, int n) {
        latestFault = NO_FAULT;
        if (!isSheet(k)) {
            return UNKNOWN;
        }
        if (!isLane(lane) || n > MOST_CELLS) {
            return OUTSIDE;
        }
        if (n < 0) {
            return failed(SIZE);
        }
        sheets[k].begin(lane, n);
        return 1;
    }

    public int lose(int k) {
        if (!isSheet(k)) {
            return UNKNOWN;
        }
        boolean had = sheets[k].hasRow();
        sheets[k].end();
        return had ? 1 : 0;
    }

    public int put(int k, int i, int v) {
        latestFault = NO_FAULT;
        if (!isSheet(k)) {
            return UNKNOWN;
        }
        Sheet row = sheets[k];
        if (!row.hasRow()) {
            return failed(NULL);
        }
        if (!row.hasCells(i, 1)) {
            return failed(INDEX);
        }
        row.set(i, v);
        return 1;
    }

    public long cell(int k, int i, int lane) {
        latestFault = NO_FAULT;
        if (!isSheet(k) || !isLane(lane)) {
            return LOST;
        }
        Sheet row = sheets[k];
        int fault = row.faultOfCells(lane, i, 1);
        if (fault != NO_FAULT) {
            latestFault = fault;
            return LOST;
        }
        return row.at(i);
    }

    public int copy(int k, int i, int other, int j, int n) {
        latestFault = NO_FAULT;
        if (!isSheet(k) || !isSheet(other)) {
            return UNKNOWN;
        }
        Sheet from = sheets[k];
        Sheet to = sheets[other];
        if (!from.hasRow() || !to.hasRow()) {
            return failed(NULL);
        }
        if (from.lane != to.lane) {
            return failed(CAST);
        }
        if (!from.hasCells(i, n) || !to.hasCells(j, n)) {
            return failed(INDEX);
        }
        System.arraycopy(from.cells, i, to.cells, j, n);
        return n;
    }

    public int tell(int k) {
        if (!lying.isPin(k)) {
            return UNKNOWN;
        }
        int bend = lying.bendAt(k);
        switch (lying.kindAt(k)) {
            case PLAIN:
                return tellPlain(bend);
            case CROOK:
                return tellCrook(bend);
            default:
                return tellDouble(bend);
        }
    }

    public int splash(int k) {
        if (!lying.isPin(k)) {
            return UNKNOWN;
        }
        if (lying.kindAt(k) == DOUBLE) {
            beginBody(5);
            return 50;
        }
        beginBody(4);
        return k;
    }

    public int as(int k, int kind) {
        latestFault = NO_FAULT;
        if (!lying.isPin(k)) {
            return UNKNOWN;
        }
        if (!isKind(kind)) {
            return OUTSIDE;
        }
        // each kind is one of all the kinds before it, too
        if (lying.kindAt(k) < kind) {
            return failed(CAST);
        }
        return 1;
    }

    public int trace() {
        return traced;
    }

    public int fault() {
        return latestFault;
    }

    public int many(int what) {
        switch (what) {
            case 0:
                return lying.pins;
            case 1:
                return lying.slope;
            case 2:
                return lying.drift;
            case 3:
                return lying.now;
            case 4:
                return readings.count;
            default:
                return OUTSIDE;
        }
    }

    // ---- what several calls ask

    private int failed(int fault) {
        latestFault = fault;
        return -10 - fault;
    }

    private boolean hasWell() {
        return lying.pins > 0;
    }

    private static boolean isSheet(int k) {
        return k >= 0 && k < SHEETS;
    }

    private static boolean isLane(int lane) {
        return lane >= 0 && lane < LANES;
    }

    private static boolean isKind(int kind) {
        return kind >= PLAIN && kind <= DOUBLE;
    }

    private static boolean isBend(int bend) {
        return bend >= 0 && bend < BENDS;
    }

    private static boolean isWish(int v) {
        return v >= 0 && v < WISHES;
    }

    private static boolean isToldOfCentury(int what) {
        return (what >= 0 && what <= 4) || (what >= 10 && what < 10 + MOST_PINS);
    }

    private static boolean isAct(int first, int second) {
        if (isKind(second)) {
            return isBend(first);
        }
        if (second == YEARS_PASS) {
            return first >= 0 && first <= MOST_YEARS;
        }
        return second == TOP_IS_FISHED && first == 0;
    }

    private static int keyNumber(int slope, int drift) {
        return 10 * slope + drift;
    }

    private static int turnOf(int kind, int bend) {
        if (kind == PLAIN) {
            return bend;
        }
        return kind == CROOK ? bend + 1 : 2 * (bend + 1);
    }

    private static int wishOf(int slope, int turn, int drift, int year) {
        return (slope * turn + drift * year) % WISHES;
    }

    private static int greatestShared(int a, int b) {
        for (int d = b; d > 1; d--) {
            if (a % d == 0 && b % d == 0) {
                return d;
            }
        }
        return 1;
    }

    private static int firstFault(Sheet text, int i, int n) {
        for (int place = 0; place < n; place++) {
            if (!goesOn(place, text.at(i + place))) {
                return place;
            }
        }
        boolean ends = n >= CODES_OF_KEY + CODES_OF_PIN && (n - CODES_OF_KEY) % CODES_OF_PIN == 0;
        return ends ? NONE : n;
    }

    /** Which codes fit depends on nothing but the place, so a TEXT is looked at place by place. */
    private static boolean goesOn(int place, int code) {
        if (place == 0) {
            return code == 'w';
        }
        if (place == 1) {
            return code >= '0' + LEAST_SLOPE && code <= '0' + MOST_SLOPE;
        }
        if (place == 2) {
            return code >= '0' && code <= '0' + MOST_DRIFT;
        }
        if (place >= CODES_OF_KEY + CODES_OF_PIN * MOST_PINS) {
            return false;
        }
        switch ((place - CODES_OF_KEY) % CODES_OF_PIN) {
            case 0:
                return code == ';';
            case 1:
                return code == 'p' || code == 'c' || code == 'd';
            default:
                return code >= '0' && code <= '9';
        }
    }

    // ---- the bodies of TELLING

    private void beginBody(int number) {
        traced = 31 * traced + number;
    }

    private int tellPlain(int bend) {
        beginBody(1);
        return bend;
    }

    private int tellCrook(int bend) {
        beginBody(2);
        return tellPlain(bend) + 100;
    }

    private int tellDouble(int bend) {
        beginBody(3);
        int asCrook = tellCrook(bend);
        return asCrook + tellPlain(bend);
    }

    /** The PINS that lie there, the lowest first, with the KEY and the YEAR. */
    private static final class Well {
        private final int[] kind = new int[MOST_PINS];
        private final int[] bend = new int[MOST_PINS];
        private final int[] year = new int[MOST_PINS];
        int pins;
        int slope;
        int drift;
        int now;

        /** Takes a TEXT in which no fault was found. */
        void fill(Sheet text, int i, int n) {
            slope = text.at(i + 1) - '0';
            drift = text.at(i + 2) - '0';
            pins = 0;
            now = 0;
            for (int at = i + CODES_OF_KEY; at < i + n; at += CODES_OF_PIN) {
                int letter = text.at(at + 1);
                now += text.at(at + 3) - '0';
                addTop(letter == 'p' ? PLAIN : letter == 'c' ? CROOK : DOUBLE, text.at(at + 2) - '0');
            }
        }

        void become(Well other) {
            System.arraycopy(other.kind, 0, kind, 0, MOST_PINS);
            System.arraycopy(other.bend, 0, bend, 0, MOST_PINS);
            System.arraycopy(other.year, 0, year, 0, MOST_PINS);
            pins = other.pins;
            slope = other.slope;
            drift = other.drift;
            now = other.now;
        }

        boolean isPin(int k) {
            return k >= 0 && k < pins && k < MOST_PINS;
        }

        int kindAt(int k) {
            return isPin(k) ? kind[k] : NONE;
        }

        int bendAt(int k) {
            return isPin(k) ? bend[k] : NONE;
        }

        int yearAt(int k) {
            return isPin(k) ? year[k] : NONE;
        }

        int turnAt(int k) {
            return isPin(k) ? turnOf(kind[k], bend[k]) : NONE;
        }

        int wishAt(int k) {
            return isPin(k) ? wishOf(slope, turnOf(kind[k], bend[k]), drift, year[k]) : NONE;
        }

        int wishNow(int someKind, int someBend) {
            return wishOf(slope, turnOf(someKind, someBend), drift, now);
        }

        void setBend(int k, int v) {
            if (isPin(k)) {
                bend[k] = v;
            }
        }

        /** False if there is no more room. */
        boolean addTop(int newKind, int newBend) {
            if (pins < 0 || pins >= MOST_PINS) {
                return false;
            }
            kind[pins] = newKind;
            bend[pins] = newBend;
            year[pins] = now;
            pins++;
            return true;
        }

        /** False if it would be the only one, or there is none. */
        boolean dropTop() {
            if (pins < 2) {
                return false;
            }
            pins--;
            return true;
        }
    }

    /** READINGS, and whether all of them are so if one thing were another. */
    private static final class Readings {
        private final int[] pin = new int[MOST_READINGS];
        private final int[] wish = new int[MOST_READINGS];
        int count;

        void clear() {
            count = 0;
        }

        /** False if there is no more room. */
        boolean add(int k, int v) {
            if (count < 0 || count >= MOST_READINGS) {
                return false;
            }
            pin[count] = k;
            wish[count] = v;
            count++;
            return true;
        }

        boolean areSoWith(Well well, int changed, int turn) {
            for (int r = 0; r < count && r < MOST_READINGS; r++) {
                int k = pin[r];
                int turned = k == changed ? turn : well.turnAt(k);
                if (wishOf(well.slope, turned, well.drift, well.yearAt(k)) != wish[r]) {
                    return false;
                }
            }
            return true;
        }

        boolean areSoByKey(Well well, int slope, int drift) {
            for (int r = 0; r < count && r < MOST_READINGS; r++) {
                int k = pin[r];
                if (wishOf(slope, well.turnAt(k), drift, well.yearAt(k)) != wish[r]) {
                    return false;
                }
            }
            return true;
        }
    }

    /** A CENTURY, told on a WELL of its own so that the one that lies there stays as it is. */
    private static final class Century {
        private final Well then = new Well();
        private int firstWrong;
        private int likeBelow;

        /** The acts are pairs that have been looked at. */
        void play(Well from, Sheet acts, int i, int n) {
            then.become(from);
            firstWrong = NONE;
            likeBelow = 0;
            for (int act = 0; act < n && firstWrong == NONE; act++) {
                if (!canDo(acts.at(i + 2 * act), acts.at(i + 2 * act + 1))) {
                    firstWrong = act;
                }
            }
        }

        private boolean canDo(int first, int second) {
            if (second == TOP_IS_FISHED) {
                return then.dropTop();
            }
            if (second == YEARS_PASS) {
                then.now += first;
                return true;
            }
            int below = then.wishAt(then.pins - 1);
            if (!then.addTop(second, first)) {
                return false;
            }
            if (then.wishAt(then.pins - 1) == below) {
                likeBelow++;
            }
            return true;
        }

        int told(int what) {
            if (what == 1) {
                return firstWrong;
            }
            if (firstWrong != NONE) {
                return -100 - firstWrong;
            }
            switch (what) {
                case 0:
                    return then.pins;
                case 2:
                    return likeBelow;
                case 3:
                    return then.now;
                case 4:
                    return allWishes();
                default:
                    return then.wishAt(what - 10);
            }
        }

        private int allWishes() {
            int set = 0;
            for (int k = 0; k < then.pins; k++) {
                set |= 1 << then.wishAt(k);
            }
            return set;
        }
    }

    /**
     * LAYERS. A PIN's WISH in a place is its share (SLOPE times TURN) and the place's (DRIFT times YEAR),
     * so a place wants PINS of one share, or any: shares can be counted, orders need not be tried.
     */
    private static final class Layers {
        private final int[] share = new int[MOST_PINS];
        private final int[] wanted = new int[MOST_PINS];
        private final int[] spare = new int[WISHES];
        private int pins;
        int ways;

        /** The row's cells have been looked at: each is a WISH or ANY_WISH. */
        void ask(Well well, Sheet row, int i) {
            pins = Math.min(well.pins, MOST_PINS);
            for (int r = 0; r < WISHES; r++) {
                spare[r] = 0;
            }
            for (int k = 0; k < pins; k++) {
                int v = row.at(i + k);
                share[k] = Math.floorMod(well.slope * well.turnAt(k), WISHES);
                wanted[k] = v == ANY_WISH ? ANY_WISH : Math.floorMod(v - well.drift * well.yearAt(k), WISHES);
                spare[share[k]]++;
            }
            ways = countWays();
        }

        /** Leaves in spare how many PINS of each share the places that want any are to have. */
        private int countWays() {
            int product = 1;
            int free = 0;
            for (int place = 0; place < pins; place++) {
                int r = wanted[place];
                if (r == ANY_WISH) {
                    free++;
                    product *= free;
                } else {
                    if (spare[r] < 1) {
                        return 0;
                    }
                    product *= spare[r];
                    spare[r]--;
                }
            }
            return product;
        }

        /** The least PIN that leaves a way is taken, place by place; asked once after ask, as spare is used up. */
        int firstAt(int wantedPlace) {
            if (ways == 0) {
                return NONE;
            }
            int taken = 0;
            for (int place = 0; place < pins; place++) {
                int k = leastFor(wanted[place], taken);
                if (place == wantedPlace || k == NONE) {
                    return k;
                }
                taken |= 1 << k;
            }
            return NONE;
        }

        private int leastFor(int r, int taken) {
            for (int k = 0; k < pins; k++) {
                int own = share[k];
                boolean left = (taken & (1 << k)) == 0;
                if (left && r == own) {
                    return k;
                }
                if (left && r == ANY_WISH && spare[own] > 0) {
                    spare[own]--;
                    return k;
                }
            }
            return NONE;
        }
    }

    /** A row of numbers of a LANE, or nothing; its cells are kept for the next row. */
    private static final class Sheet {
        private static final int NOTHING = -1;
        final int[] cells = new int[MOST_CELLS];
        int lane = NOTHING;
        private int length;

        void begin(int newLane, int n) {
            lane = newLane;
            length = Math.max(0, Math.min(n, MOST_CELLS));
            for (int i = 0; i < MOST_CELLS; i++) {
                cells[i] = 0;
            }
        }

        void end() {
            lane = NOTHING;
            length = 0;
        }

        boolean hasRow() {
            return lane != NOTHING;
        }

        boolean hasCells(int i, int n) {
            return i >= 0 && i <= length && n >= 0 && n <= length - i;
        }

        /** CAST comes first, but nothing is no CAST. */
        int faultAs(int asLane) {
            if (!hasRow()) {
                return NULL;
            }
            return lane == asLane ? NO_FAULT : CAST;
        }

        int faultOfCells(int asLane, int i, int n) {
            int fault = faultAs(asLane);
            if (fault == NO_FAULT && !hasCells(i, n)) {
                fault = INDEX;
            }
            return fault;
        }

        int at(int i) {
            return hasCells(i, 1) ? cells[i] : 0;
        }

        void set(int i, int v) {
            if (!hasCells(i, 1)) {
                return;
            }
            if (lane == 0) {
                cells[i] = (byte) v;
            } else if (lane == 1) {
                cells[i] = (short) v;
            } else {
                cells[i] = v;
            }
        }
    }
}
