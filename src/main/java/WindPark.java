/** A wind farm: a store of things, parts that wear, plans that are acted, and turbines that go step by step. */
public final class WindPark {
    public static final int NONE = -1, UNKNOWN = -2, OUTSIDE = -3, STATE = -4, ROOM = -5;

    private static final int CASES = 24, PLANS = 10, MOST_TURBINES = 6, SLOTS = 5, SENSORS = 3;
    private static final int MOST_ITEMS = 30, MOST_PLACES = 8, MOST_IN_GRID_ROW = 12, MOST_PARTS = 60;
    private static final int MOST_LOAD = 10000, FARTHEST = 100, MOST_RUN = 40, MOST_FINDINGS = 40, MOST_TOLD = 60;
    private static final int MOST_STEPS_OF_PLAN = 16, MOST_STEPS_OF_ACT = 100, DEEPEST_PLAN = 8, CASE_FOR_SLOTS = 23;

    // FAILURES
    private static final int NOTHING = 1, INDEX = 2, SIZE = 3, CAST = 4, STORE = 5, ZERO = 6, HOLD = 7, DEEP = 8, SPENT = 9;
    // other ends of a PLAN
    private static final int ENDED = 0, ANSWERED = 10;
    // forms of THINGS: the LANES 0 .. 7 are those of ROWS
    private static final int BYTES = 0, SHORTS = 1, CHARS = 2, INTS = 3, FLOATS = 5, DOUBLES = 6, TRUTHS = 7;
    private static final int GRID = 8, CRADLE = 9, PART = 10;
    private static final int CUPS = 0, VANE = 1, SONIC = 2, DRIVE = 3, PITCH = 4, BLADE = 5, HEAVY = 6, SENSOR = 7;
    private static final int LIMIT = 0, COST = 1, WEARS = 2;
    private static final int TAKE = 0, LAY = 1, WRITE = 2, SAY = 3, ANSWER = 4, SAY_LAST = 5, FAIL = 6, DO = 7, TRY = 8;
    private static final int FINALLY = 9, HOLD_ROTOR = 10, WAKE = 11, FIT = 12, STRIP = 13;
    private static final int WAITING = 0, STARTING = 1, MAKING = 2, STOPPING = 3, FAILED = 4;
    private static final int DRIVE_SLOT = 3, BLADE_SLOT = 4;
    private static final int[] DX = {1, 1, 0, -1, -1, -1, 0, 1};
    private static final int[] DY = {0, 1, 1, 1, 0, -1, -1, -1};

    private final Thing[] cases = new Thing[CASES];
    private final Plan[] plans = new Plan[PLANS];
    private final long[] measured = new long[MOST_ITEMS];
    private final Log trace = new Log();
    private final Act latestAct = new Act();
    private final Farm farm;
    private int parts;
    private int why;

    public WindPark(int turbines) {
        for (int i = 0; i < PLANS; i++) {
            plans[i] = new Plan();
        }
        farm = new Farm(Math.max(1, Math.min(MOST_TURBINES, turbines)));
    }

    // ---- the store

    public int row(int c, int lane, int n) {
        if (!isCase(c)) {
            return refused(UNKNOWN);
        }
        if (!isLane(lane) || n > MOST_ITEMS) {
            return refused(OUTSIDE);
        }
        if (n < 0) {
            return failed(SIZE);
        }
        cases[c] = new Row(lane, n);
        return done(n);
    }

    public int grid(int c, int n, int m) {
        if (!isCase(c)) {
            return refused(UNKNOWN);
        }
        if (n > MOST_PLACES || m > MOST_IN_GRID_ROW) {
            return refused(OUTSIDE);
        }
        if (n < 0 || m < -1) {
            return failed(SIZE);
        }
        Rack grid = new Rack(GRID, NONE, n);
        for (int i = 0; i < n && m >= 0; i++) {
            grid.items[i] = new Row(INTS, m);
        }
        cases[c] = grid;
        return done(n);
    }

    public int cradle(int c, int kind, int n) {
        if (!isCase(c)) {
            return refused(UNKNOWN);
        }
        if (!isKind(kind) || n > MOST_PLACES) {
            return refused(OUTSIDE);
        }
        if (n < 0) {
            return failed(SIZE);
        }
        cases[c] = new Rack(CRADLE, kind, n);
        return done(n);
    }

    public int part(int c, int kind) {
        if (!isCase(c)) {
            return refused(UNKNOWN);
        }
        if (kind < CUPS || kind > HEAVY) {
            return refused(OUTSIDE);
        }
        if (parts >= MOST_PARTS) {
            return refused(ROOM);
        }
        int serial = parts;
        parts++;
        cases[c] = new Part(kind, serial);
        return done(serial);
    }

    public int set(int c, int d) {
        if (!isCase(c) || !isCase(d)) {
            return refused(UNKNOWN);
        }
        boolean wasSo = cases[d] == cases[c];
        cases[d] = cases[c];
        return done(wasSo ? 0 : 1);
    }

    public int clear(int c) {
        if (!isCase(c)) {
            return refused(UNKNOWN);
        }
        boolean wasEmpty = cases[c] == null;
        cases[c] = null;
        return done(wasEmpty ? 0 : 1);
    }

    public int holds(int c) {
        if (!isCase(c)) {
            return refused(UNKNOWN);
        }
        Thing thing = cases[c];
        return done(thing == null ? NONE : thing.form);
    }

    public int put(int c, int lane, int i, long bits) {
        Row row = rowWithItem(c, lane, i);
        if (row == null) {
            return why;
        }
        row.become(i, bits);
        return 1;
    }

    public long get(int c, int lane, int i) {
        Row row = rowWithItem(c, lane, i);
        return row == null ? 0 : row.items[i];
    }

    public int putAt(int c, int i, int j, int v) {
        Row row = gridRowWithItem(c, i, j);
        if (row == null) {
            return why;
        }
        row.items[j] = v;
        return 1;
    }

    public int getAt(int c, int i, int j) {
        Row row = gridRowWithItem(c, i, j);
        return row == null ? 0 : (int) row.items[j];
    }

    public int link(int c, int i, int d) {
        Rack grid = rackToFill(c, GRID, i, d, INTS);
        if (grid == null) {
            return why;
        }
        grid.items[i] = cases[d];
        return 1;
    }

    public int lay(int c, int i, int d) {
        Rack cradle = rackToFill(c, CRADLE, i, d, PART);
        if (cradle == null) {
            return why;
        }
        if (!cradle.takes(cases[d])) {
            return failed(STORE);
        }
        cradle.items[i] = cases[d];
        return 1;
    }

    public int lift(int c, int i, int kind, int d) {
        if (!isCase(c) || !isCase(d)) {
            return refused(UNKNOWN);
        }
        if (!isKind(kind)) {
            return refused(OUTSIDE);
        }
        Rack cradle = rackWithPlace(c, CRADLE, i);
        if (cradle == null) {
            return why;
        }
        Thing lying = cradle.items[i];
        if (lying instanceof Part part && !part.isOf(kind)) {
            return failed(CAST);
        }
        cases[d] = lying;
        return 1;
    }

    public int copy(int c, int i, int d, int j, int n) {
        if (!isCase(c) || !isCase(d)) {
            return refused(UNKNOWN);
        }
        Thing from = cases[c];
        Thing to = cases[d];
        if (from == null || to == null) {
            return failed(NOTHING);
        }
        if (from instanceof Row source && to instanceof Row target && source.form == target.form) {
            if (!spans(source.items.length, i, n) || !spans(target.items.length, j, n)) {
                return failed(INDEX);
            }
            System.arraycopy(source.items, i, target.items, j, n);
            return done(n);
        }
        if (from instanceof Rack source && to instanceof Rack target) {
            if (!spans(source.items.length, i, n) || !spans(target.items.length, j, n)) {
                return failed(INDEX);
            }
            return target.copyFrom(source, i, j, n) ? done(n) : failed(STORE);
        }
        return failed(STORE);
    }

    public int length(int c, int as) {
        int fault = faultAs(c, as, as >= BYTES && as <= CRADLE);
        if (fault != 0) {
            return refused(fault);
        }
        if (cases[c] instanceof Row row) {
            return done(row.items.length);
        }
        return done(cases[c] instanceof Rack rack ? rack.items.length : 0);
    }

    public int alike(int c, int d) {
        if (!isCase(c) || !isCase(d)) {
            return refused(UNKNOWN);
        }
        Thing one = cases[c];
        Thing other = cases[d];
        if (one == other) {
            return done(1);
        }
        if (one instanceof Row a && other instanceof Row b) {
            return done(a.isLike(b) ? 2 : 0);
        }
        if (one instanceof Rack a && other instanceof Rack b) {
            return done(a.isLike(b) ? 2 : 0);
        }
        return done(0);
    }

    // ---- parts

    public long ask(int c, int member, int load) {
        Part part = partIn(c, member >= LIMIT && member <= WEARS && load >= 0 && load <= MOST_LOAD);
        if (part == null) {
            return 0;
        }
        if (member == LIMIT) {
            return part.limit(trace);
        }
        if (member == COST) {
            return part.cost(trace);
        }
        int failure = part.wears(load, trace);
        if (failure != 0) {
            failed(failure);
            return 0;
        }
        return part.worn;
    }

    public long told(int c, int what) {
        Part part = partIn(c, what >= 0 && what <= 2);
        if (part == null) {
            return 0;
        }
        if (what == 0) {
            return part.kind;
        }
        return what == 1 ? part.serial : part.wear;
    }

    public int traced(int i) {
        return done(trace.at(i, NONE));
    }

    public int forget() {
        int had = trace.size();
        trace.times = 0;
        return done(had);
    }

    // ---- seconds

    public long seconds(int c, int lane, int what) {
        Row row = secondsRow(c, lane, what >= 0 && what <= 5);
        if (row == null) {
            return 0;
        }
        int n = sortMeasured(row);
        if (what == 5) {
            return n;
        }
        if (n == 0) {
            why = what == 4 ? codeOf(ZERO) : 0;
            return what == 4 ? 0 : Bits.NO_NUMBER;
        }
        switch (what) {
            case 0:
                return measured[n - 1];
            case 1:
                return measured[0];
            case 3:
                return measured[(n - 1) / 2];
            default:
                return meanOf(row.sum(), n, what == 4);
        }
    }

    public int test(int c, int lane, int i, int j, int t) {
        Row row = secondsRow(c, lane, t >= 0 && t <= 11);
        if (row == null) {
            return why;
        }
        if (!row.has(i) || !row.has(j)) {
            return failed(INDEX);
        }
        boolean passed = Bits.passes(row.asDouble(i), row.asDouble(j), t % 6);
        return passed == t < 6 ? 1 : 0;
    }

    // ---- acts

    public int step(int plan, int op, int a, int b, int c) {
        if (!isPlan(plan)) {
            return refused(UNKNOWN);
        }
        if (op < TAKE || op > STRIP) {
            return refused(OUTSIDE);
        }
        if (!namesKnown(op, a, b, c)) {
            return refused(UNKNOWN);
        }
        if ((op == FAIL && (a < NOTHING || a > DEEP)) || (op == TRY && (b < 0 || b > DEEP))) {
            return refused(OUTSIDE);
        }
        if (plans[plan].size >= MOST_STEPS_OF_PLAN) {
            return refused(ROOM);
        }
        plans[plan].append(op, a, b, c);
        return done(plans[plan].size);
    }

    public int drop(int plan) {
        if (!isPlan(plan)) {
            return refused(UNKNOWN);
        }
        int had = plans[plan].size;
        plans[plan].size = 0;
        return done(had);
    }

    public int act(int plan) {
        if (!isPlan(plan)) {
            return refused(UNKNOWN);
        }
        int end = latestAct.begin(plan, cases, plans, farm.turbines);
        if (end == ENDED) {
            return done(0);
        }
        return end == ANSWERED ? done(1) : failed(end);
    }

    public int acted(int what) {
        switch (what) {
            case 0:
                return done(latestAct.answered);
            case 1:
                return done(latestAct.steps);
            case 2:
                return done(latestAct.deepest);
            case 3:
                return done(latestAct.log.times);
            case 4:
                return done(latestAct.cause);
            case 5:
                return done(latestAct.wentBack);
            default:
                return refused(OUTSIDE);
        }
    }

    public int said(int i) {
        return done(latestAct.log.at(i, 0));
    }

    // ---- turbines

    public int place(int t, int x, int y) {
        if (!isTurbine(t)) {
            return refused(UNKNOWN);
        }
        if (!isNear(x) || !isNear(y)) {
            return refused(OUTSIDE);
        }
        farm.turbines[t].x = x;
        farm.turbines[t].y = y;
        return done(1);
    }

    public int read(int t, int sensor, long bits) {
        if (!isTurbine(t) || sensor < 0 || sensor >= SENSORS) {
            return refused(UNKNOWN);
        }
        long reading = Bits.kept(DOUBLES, bits);
        if (Bits.isNumber(reading)) {
            double number = Bits.number(reading);
            if (number > 1000.0 || number < -1000.0) {
                return refused(OUTSIDE);
            }
        }
        farm.turbines[t].readings[sensor] = reading;
        return done(1);
    }

    public int wind(int direction, boolean cold) {
        if (direction < 0 || direction >= DX.length) {
            return refused(OUTSIDE);
        }
        farm.direction = direction;
        farm.cold = cold;
        return done(1);
    }

    public int bound(int t, long bits) {
        if (!isTurbine(t)) {
            return refused(UNKNOWN);
        }
        if (!Bits.isNumber(bits) || Bits.number(bits) < 0.0) {
            return refused(OUTSIDE);
        }
        farm.turbines[t].bound = Bits.number(bits);
        return done(1);
    }

    public int run(int n) {
        if (n < 1 || n > MOST_RUN) {
            return refused(OUTSIDE);
        }
        int came = 0;
        for (int i = 0; i < n; i++) {
            came = came + farm.stepOnce(trace);
        }
        return done(came);
    }

    public int reset(int t) {
        if (!isTurbine(t)) {
            return refused(UNKNOWN);
        }
        if (farm.turbines[t].state != FAILED) {
            return refused(STATE);
        }
        farm.turbines[t].state = WAITING;
        return done(1);
    }

    public long of(int t, int what) {
        if (!isTurbine(t)) {
            refused(UNKNOWN);
            return 0;
        }
        if (what < 0 || what >= 8 + SLOTS) {
            refused(OUTSIDE);
            return 0;
        }
        why = 0;
        return farm.turbines[t].figure(what);
    }

    public int finding(int i, int what) {
        if (what < 0 || what > 3) {
            return refused(OUTSIDE);
        }
        if (i < 0 || i >= farm.findingsKept) {
            return done(NONE);
        }
        return done(farm.findings[4 * i + what]);
    }

    public int why() {
        return why;
    }

    public int count(int what) {
        switch (what) {
            case 0:
                return done(farm.turbines.length);
            case 1:
                return done(parts);
            case 2:
                return done(fullCases());
            case 3:
                return done(farm.steps);
            case 4:
                return done(farm.findingsKept);
            case 5:
                return done(trace.size());
            default:
                return refused(OUTSIDE);
        }
    }

    // ---- what the calls share

    private int refused(int code) {
        why = code;
        return code;
    }

    private int failed(int failure) {
        return refused(codeOf(failure));
    }

    private int done(int answer) {
        why = 0;
        return answer;
    }

    private static boolean isCase(int c) {
        return c >= 0 && c < CASES;
    }

    private static boolean isPlan(int plan) {
        return plan >= 0 && plan < PLANS;
    }

    private static boolean isLane(int lane) {
        return lane >= BYTES && lane <= TRUTHS;
    }

    private static boolean isKind(int kind) {
        return kind >= CUPS && kind <= SENSOR;
    }

    private static boolean isNear(int coordinate) {
        return coordinate >= -FARTHEST && coordinate <= FARTHEST;
    }

    private boolean isTurbine(int t) {
        return t >= 0 && t < farm.turbines.length;
    }

    /** Whether n items from i on lie within the length; written so that no sum can wrap around. */
    private static boolean spans(int length, int i, int n) {
        return i >= 0 && n >= 0 && n <= length && i <= length - n;
    }

    private static int codeOf(int failure) {
        return -10 - failure;
    }

    /** An EMPTY CASE may be treated as any form. */
    private boolean isMiscast(int c, int form) {
        Thing thing = cases[c];
        return thing != null && thing.form != form;
    }

    /** What refuses a call that treats what CASE c holds as a THING of a form, or is met there; 0. */
    private int faultAs(int c, int form, boolean numbersAreAsTold) {
        if (!isCase(c)) {
            return UNKNOWN;
        }
        if (!numbersAreAsTold) {
            return OUTSIDE;
        }
        if (isMiscast(c, form)) {
            return codeOf(CAST);
        }
        return cases[c] == null ? codeOf(NOTHING) : 0;
    }

    // The finders below answer null where a call is refused or fails, and leave in why what by; else why is 0.

    private Row rowIn(int c, int lane, boolean numbersAreAsTold) {
        why = faultAs(c, lane, numbersAreAsTold);
        return why == 0 && cases[c] instanceof Row row ? row : null;
    }

    private Row rowWithItem(int c, int lane, int i) {
        Row row = rowIn(c, lane, isLane(lane));
        if (row == null || row.has(i)) {
            return row;
        }
        failed(INDEX);
        return null;
    }

    private Row secondsRow(int c, int lane, boolean otherNumbersAreAsTold) {
        return rowIn(c, lane, otherNumbersAreAsTold && (lane == FLOATS || lane == DOUBLES));
    }

    private Rack rackWithPlace(int c, int form, int i) {
        why = faultAs(c, form, true);
        Rack rack = why == 0 && cases[c] instanceof Rack found ? found : null;
        if (rack == null || rack.has(i)) {
            return rack;
        }
        failed(INDEX);
        return null;
    }

    private Row gridRowWithItem(int c, int i, int j) {
        Rack grid = rackWithPlace(c, GRID, i);
        if (grid == null) {
            return null;
        }
        if (!(grid.items[i] instanceof Row row)) {
            failed(NOTHING);
            return null;
        }
        if (!row.has(j)) {
            failed(INDEX);
            return null;
        }
        return row;
    }

    /** The GRID or CRADLE in CASE c whose place i what CASE d holds, of another form, is to come to. */
    private Rack rackToFill(int c, int form, int i, int d, int itemForm) {
        if (!isCase(c) || !isCase(d)) {
            refused(UNKNOWN);
            return null;
        }
        if (isMiscast(c, form) || isMiscast(d, itemForm)) {
            failed(CAST);
            return null;
        }
        return rackWithPlace(c, form, i);
    }

    private Part partIn(int c, boolean numbersAreAsTold) {
        why = faultAs(c, PART, numbersAreAsTold);
        return why == 0 && cases[c] instanceof Part part ? part : null;
    }

    private int sortMeasured(Row row) {
        int n = 0;
        for (int i = 0; i < row.items.length && n < measured.length; i++) {
            long bits = row.asDouble(i);
            if (Bits.isNumber(bits)) {
                Bits.sortIn(measured, n, bits);
                n++;
            }
        }
        return n;
    }

    /** The sum by n, n not 0: as longs, or the BITS of the quotient of doubles. */
    private static long meanOf(long sum, int n, boolean asLongs) {
        if (!Bits.isNumber(sum)) {
            return asLongs ? 0 : Bits.NO_NUMBER;
        }
        double number = Bits.number(sum);
        return asLongs ? (long) number / n : Bits.of64(number / n);
    }

    private boolean namesKnown(int op, int a, int b, int c) {
        switch (op) {
            case TAKE:
            case LAY:
            case WRITE:
                return isCase(a);
            case DO:
                return isPlan(a);
            case TRY:
                return isPlan(a) && isPlan(c);
            case FINALLY:
                return isPlan(a) && isPlan(b);
            case HOLD_ROTOR:
                return isTurbine(a) && isPlan(b);
            case WAKE:
                return isTurbine(a);
            case FIT:
            case STRIP:
                return isTurbine(a) && b >= 0 && b < SLOTS;
            default:
                return true;
        }
    }

    private int fullCases() {
        int full = 0;
        for (int c = 0; c < CASES; c++) {
            if (cases[c] != null) {
                full++;
            }
        }
        return full;
    }

    /** What a CASE may hold; its form is what holds() answers. */
    private abstract static class Thing {
        final int form;

        Thing(int form) {
            this.form = form;
        }
    }

    /** A ROW of any LANE, its items as BITS, so that one that is no number needs no arithmetic. */
    private static final class Row extends Thing {
        final long[] items;

        Row(int lane, int n) {
            super(lane);
            items = new long[n];
        }

        boolean has(int i) {
            return i >= 0 && i < items.length;
        }

        void become(int i, long bits) {
            items[i] = Bits.kept(form, bits);
        }

        /** The BITS that item i, a float or a double, has as a double. */
        long asDouble(int i) {
            return form == FLOATS ? Bits.widened(items[i]) : items[i];
        }

        /** The BITS of the sum of the numbers; two unlike infinities are kept apart, for their sum is no number. */
        long sum() {
            double sum = 0.0;
            for (int i = 0; i < items.length; i++) {
                long bits = asDouble(i);
                if (Bits.isNumber(bits)) {
                    double number = Bits.number(bits);
                    if (Bits.isInfinite(sum) && Bits.isInfinite(number) && sum != number) {
                        return Bits.NO_NUMBER;
                    }
                    sum = sum + number;
                }
            }
            return Bits.of64(sum);
        }

        boolean isLike(Row other) {
            if (form != other.form || items.length != other.items.length) {
                return false;
            }
            for (int i = 0; i < items.length; i++) {
                if (items[i] != other.items[i]) {
                    return false;
                }
            }
            return true;
        }
    }

    /** A GRID (of ROWS of ints) or a CRADLE (of PARTS of a KIND); one class, for COPY treats them alike. */
    private static final class Rack extends Thing {
        final int kind;
        final Thing[] items;

        Rack(int form, int kind, int n) {
            super(form);
            this.kind = kind;
            items = new Thing[n];
        }

        boolean has(int i) {
            return i >= 0 && i < items.length;
        }

        boolean takes(Thing thing) {
            if (thing == null) {
                return true;
            }
            if (form == GRID) {
                return thing.form == INTS;
            }
            return thing instanceof Part part && part.isOf(kind);
        }

        /** False at the first item that does not belong; those ahead of it have come then. */
        boolean copyFrom(Rack source, int i, int j, int n) {
            if (source == this) {
                System.arraycopy(items, i, items, j, n);
                return true;
            }
            for (int k = 0; k < n; k++) {
                Thing thing = source.items[i + k];
                if (!takes(thing)) {
                    return false;
                }
                items[j + k] = thing;
            }
            return true;
        }

        boolean isLike(Rack other) {
            if (form != other.form || kind != other.kind || items.length != other.items.length) {
                return false;
            }
            for (int i = 0; i < items.length; i++) {
                Thing one = items[i];
                Thing another = other.items[i];
                boolean alike = one == another || (one instanceof Row a && another instanceof Row b && a.isLike(b));
                if (!alike) {
                    return false;
                }
            }
            return true;
        }
    }

    private static final class Part extends Thing {
        final int kind;
        final int serial;
        long wear;
        long worn;

        Part(int kind, int serial) {
            super(PART);
            this.kind = kind;
            this.serial = serial;
        }

        boolean isOf(int wanted) {
            switch (wanted) {
                case VANE:
                    return kind == VANE || kind == SONIC;
                case DRIVE:
                    return kind == DRIVE || kind == PITCH;
                case BLADE:
                    return kind == BLADE || kind == HEAVY;
                case SENSOR:
                    return kind == CUPS || kind == VANE || kind == SONIC;
                default:
                    return kind == wanted;
            }
        }

        int limit(Log trace) {
            switch (kind) {
                case CUPS:
                    trace.tell(11);
                    return 40;
                case VANE:
                    trace.tell(12);
                    return 30;
                case SONIC:
                    trace.tell(13);
                    trace.tell(12);
                    return 30 + 20;
                case DRIVE:
                    trace.tell(14);
                    return 50;
                case PITCH:
                    trace.tell(15);
                    trace.tell(14);
                    return 2 * 50;
                case BLADE:
                    trace.tell(16);
                    return 60;
                default:
                    trace.tell(17);
                    trace.tell(16);
                    return 60 + serial % 10;
            }
        }

        int cost(Log trace) {
            trace.tell(kind == HEAVY ? 22 : 21);
            return (kind == HEAVY ? 15 : 10) * limit(trace);
        }

        /** The FAILURE, or 0: then worn is what it told, and the WEAR has it. */
        int wears(int load, Log trace) {
            long telling = load;
            if (kind == PITCH) {
                trace.tell(33);
            }
            if (isOf(DRIVE)) {
                trace.tell(32);
                int limit = limit(trace);
                if (limit == 0) {
                    return ZERO;
                }
                telling = (long) load * load / limit;
            } else {
                trace.tell(31);
            }
            if (kind == PITCH) {
                if (serial == 0) {
                    return ZERO;
                }
                telling = telling + load / serial;
            }
            worn = telling;
            wear = wear + telling;
            return 0;
        }
    }

    /** What is told one by one: the first 60 are kept, all are counted. */
    private static final class Log {
        final int[] kept = new int[MOST_TOLD];
        int times;

        void tell(int what) {
            if (times >= 0 && times < kept.length) {
                kept[times] = what;
            }
            times++;
        }

        int size() {
            return Math.min(times, kept.length);
        }

        int at(int i, int ifNone) {
            return i >= 0 && i < size() ? kept[i] : ifNone;
        }
    }

    private static final class Plan {
        final int[] ops = new int[MOST_STEPS_OF_PLAN];
        final int[] as = new int[MOST_STEPS_OF_PLAN];
        final int[] bs = new int[MOST_STEPS_OF_PLAN];
        final int[] cs = new int[MOST_STEPS_OF_PLAN];
        int size;

        void append(int op, int a, int b, int c) {
            if (size < ops.length) {
                ops[size] = op;
                as[size] = a;
                bs[size] = b;
                cs[size] = c;
                size++;
            }
        }
    }

    /** How CASES, SLOTS and items were ahead of an ACT. */
    private static final class Undo {
        final Thing[] cases = new Thing[CASES];
        final Part[] slots = new Part[MOST_TURBINES * SLOTS];
        final Row[] rows = new Row[MOST_STEPS_OF_ACT];
        final int[] indexes = new int[MOST_STEPS_OF_ACT];
        final long[] items = new long[MOST_STEPS_OF_ACT];
        int writes;

        void keep(Thing[] nowCases, Turbine[] turbines) {
            System.arraycopy(nowCases, 0, cases, 0, CASES);
            for (int t = 0; t < turbines.length; t++) {
                System.arraycopy(turbines[t].slots, 0, slots, t * SLOTS, SLOTS);
            }
            writes = 0;
        }

        void keepItem(Row row, int i) {
            if (writes < rows.length) {
                rows[writes] = row;
                indexes[writes] = i;
                items[writes] = row.items[i];
                writes++;
            }
        }

        /** The latest write first: an item may have been written more than once. */
        void bringBack(Thing[] nowCases, Turbine[] turbines) {
            System.arraycopy(cases, 0, nowCases, 0, CASES);
            for (int t = 0; t < turbines.length; t++) {
                System.arraycopy(slots, t * SLOTS, turbines[t].slots, 0, SLOTS);
            }
            for (int w = writes - 1; w >= 0; w--) {
                rows[w].items[indexes[w]] = items[w];
            }
        }
    }

    /** The latest ACT, made once and begun anew for each. */
    private static final class Act {
        final Undo undo = new Undo();
        final Log log = new Log();
        final Thing[] hand = new Thing[MOST_STEPS_OF_ACT];
        final int[] takenFrom = new int[MOST_STEPS_OF_ACT];
        int inHand;
        int last;
        int answered;
        int steps;
        int deepest;
        int cause;
        int wentBack;
        Thing[] cases;
        Plan[] plans;
        Turbine[] turbines;

        /** ENDED, ANSWERED, or the FAILURE. */
        int begin(int plan, Thing[] nowCases, Plan[] nowPlans, Turbine[] nowTurbines) {
            cases = nowCases;
            plans = nowPlans;
            turbines = nowTurbines;
            undo.keep(cases, turbines);
            log.times = 0;
            inHand = 0;
            last = 0;
            answered = 0;
            steps = 0;
            deepest = 0;
            cause = 0;
            wentBack = 0;
            int end = perform(plan, 1);
            if (isFailure(end)) {
                undo.bringBack(cases, turbines);
            } else {
                giveBack();
            }
            if (end != ANSWERED) {
                answered = 0;
            }
            return end;
        }

        private static boolean isFailure(int end) {
            return end != ENDED && end != ANSWERED;
        }

        private int perform(int plan, int depth) {
            if (depth > DEEPEST_PLAN) {
                return DEEP;
            }
            deepest = Math.max(deepest, depth);
            Plan steppedThrough = plans[plan];
            for (int i = 0; i < steppedThrough.size; i++) {
                if (steps >= MOST_STEPS_OF_ACT) {
                    return SPENT;
                }
                steps++;
                int end = stepOf(steppedThrough, i, depth);
                if (end != ENDED) {
                    return end;
                }
            }
            return ENDED;
        }

        private int stepOf(Plan plan, int i, int depth) {
            int a = plan.as[i];
            int b = plan.bs[i];
            switch (plan.ops[i]) {
                case DO:
                    return doPlan(a, depth);
                case TRY:
                    return tryPlan(a, b, plan.cs[i], depth);
                case FINALLY:
                    return finishPlan(a, b, depth);
                case HOLD_ROTOR:
                    return holdRotor(turbines[a], b, depth);
                case ANSWER:
                    answered = a;
                    return ANSWERED;
                case FAIL:
                    return a;
                case SAY:
                    log.tell(a);
                    return ENDED;
                case SAY_LAST:
                    log.tell(last);
                    return ENDED;
                default:
                    return plainStep(plan.ops[i], a, b, plan.cs[i]);
            }
        }

        private int plainStep(int op, int a, int b, int c) {
            switch (op) {
                case TAKE:
                    return takeFrom(a);
                case LAY:
                    return layInto(a);
                case WRITE:
                    return write(a, b, c);
                case WAKE:
                    return wake(turbines[a]);
                case FIT:
                    return fit(turbines[a], b);
                default:
                    return strip(turbines[a], b);
            }
        }

        private int doPlan(int plan, int depth) {
            int end = perform(plan, depth + 1);
            if (end != ANSWERED) {
                return end;
            }
            last = answered;
            return ENDED;
        }

        private int tryPlan(int plan, int failure, int instead, int depth) {
            int end = perform(plan, depth + 1);
            boolean met = isFailure(end) && end != SPENT && (failure == 0 || failure == end);
            return met ? perform(instead, depth + 1) : end;
        }

        /** What the first PLAN answered is kept aside: a DO in the final one may answer something else. */
        private int finishPlan(int plan, int finalPlan, int depth) {
            int end = perform(plan, depth + 1);
            if (end == SPENT) {
                return end;
            }
            int answeredFirst = answered;
            int finalEnd = perform(finalPlan, depth + 1);
            if (finalEnd == ENDED) {
                answered = answeredFirst;
                return end;
            }
            if (isFailure(end)) {
                cause = end;
            }
            return finalEnd;
        }

        private int holdRotor(Turbine turbine, int plan, int depth) {
            turbine.held++;
            int end = perform(plan, depth + 1);
            turbine.held--;
            return end;
        }

        private void takeUp(Thing thing, int from) {
            if (inHand < hand.length) {
                hand[inHand] = thing;
                takenFrom[inHand] = from;
                inHand++;
            }
        }

        private int takeFrom(int c) {
            if (cases[c] == null) {
                return NOTHING;
            }
            takeUp(cases[c], c);
            cases[c] = null;
            return ENDED;
        }

        private int layInto(int c) {
            if (inHand == 0) {
                return NOTHING;
            }
            if (cases[c] != null) {
                return STORE;
            }
            inHand--;
            cases[c] = hand[inHand];
            return ENDED;
        }

        private int write(int c, int i, int value) {
            if (cases[c] == null) {
                return NOTHING;
            }
            if (!(cases[c] instanceof Row row) || row.form != INTS) {
                return CAST;
            }
            if (!row.has(i)) {
                return INDEX;
            }
            undo.keepItem(row, i);
            row.items[i] = value;
            return ENDED;
        }

        private int wake(Turbine turbine) {
            if (turbine.held == 0) {
                return HOLD;
            }
            log.tell(turbine.held);
            return ENDED;
        }

        private static boolean mayNotTouch(Turbine turbine, int slot) {
            return slot >= SENSORS && turbine.held == 0;
        }

        private static int kindFor(int slot) {
            if (slot < SENSORS) {
                return SENSOR;
            }
            return slot == DRIVE_SLOT ? DRIVE : BLADE;
        }

        private int fit(Turbine turbine, int slot) {
            if (mayNotTouch(turbine, slot)) {
                return HOLD;
            }
            if (inHand == 0) {
                return NOTHING;
            }
            if (!(hand[inHand - 1] instanceof Part part) || !part.isOf(kindFor(slot))) {
                return CAST;
            }
            inHand--;
            Part old = turbine.slots[slot];
            turbine.slots[slot] = part;
            if (old != null) {
                takeUp(old, CASE_FOR_SLOTS);
            }
            return ENDED;
        }

        private int strip(Turbine turbine, int slot) {
            if (mayNotTouch(turbine, slot)) {
                return HOLD;
            }
            Part old = turbine.slots[slot];
            if (old == null) {
                return NOTHING;
            }
            turbine.slots[slot] = null;
            takeUp(old, CASE_FOR_SLOTS);
            return ENDED;
        }

        private void giveBack() {
            for (int i = inHand - 1; i >= 0; i--) {
                int c = cases[takenFrom[i]] == null ? takenFrom[i] : leastEmpty();
                if (c != NONE) {
                    cases[c] = hand[i];
                    wentBack++;
                }
            }
            inHand = 0;
        }

        private int leastEmpty() {
            for (int c = 0; c < CASES; c++) {
                if (cases[c] == null) {
                    return c;
                }
            }
            return NONE;
        }
    }

    private static final class Turbine {
        final int number;
        final Part[] slots = new Part[SLOTS];
        final long[] readings = {Bits.NO_NUMBER, Bits.NO_NUMBER, Bits.NO_NUMBER};
        final long[] before = new long[SENSORS];
        final long[] earlier = new long[SENSORS];
        final long[] votes = new long[SENSORS];
        int x;
        int y;
        int line;
        int cross;
        int held;
        int state = WAITING;
        double pitch = 90.0;
        double torque;
        double turns;
        double energy;
        double bound = 1000.0;
        double wind;
        long vote;

        Turbine(int number) {
            this.number = number;
        }

        boolean isBlind() {
            return !Bits.isNumber(vote);
        }

        void castVote(boolean leaveOutFrozen) {
            int n = 0;
            for (int s = 0; s < SENSORS; s++) {
                boolean frozen = leaveOutFrozen && before[s] == readings[s] && earlier[s] == readings[s];
                if (slots[s] != null && Bits.isNumber(readings[s]) && !frozen) {
                    Bits.sortIn(votes, n, readings[s]);
                    n++;
                }
            }
            vote = n == 0 ? Bits.NO_NUMBER : votes[(n - 1) / 2];
        }

        void rememberReadings() {
            for (int s = 0; s < SENSORS; s++) {
                earlier[s] = before[s];
                before[s] = readings[s];
            }
        }

        void changeState() {
            boolean atWork = state == STARTING || state == MAKING;
            if (atWork && (isBlind() || turns > 16.0)) {
                state = STOPPING;
            } else if (state == WAITING && !isBlind() && wind >= 4.0 && bound > 0.0) {
                state = STARTING;
            } else if (state == STARTING && turns >= 6.0) {
                state = MAKING;
            } else if (state == STOPPING && turns < 0.5) {
                state = WAITING;
            }
        }

        private double pitchGoal() {
            if (state == STARTING) {
                return 20.0;
            }
            if (state != MAKING) {
                return 90.0;
            }
            if (turns <= 10.0) {
                return 0.0;
            }
            double goal = (turns - 10.0) * 8.0;
            return goal < 90.0 ? goal : 90.0;
        }

        private static double within(double limit, double number) {
            if (number > limit) {
                return limit;
            }
            return number < 0.0 - limit ? 0.0 - limit : number;
        }

        int turnBlades(Log trace) {
            double by = within(state == STOPPING ? 12.0 : 6.0, pitchGoal() - pitch);
            if (by == 0.0) {
                return 0;
            }
            Part drive = slots[DRIVE_SLOT];
            int load = (int) (by < 0.0 ? 0.0 - by : by);
            int failure = drive == null ? NOTHING : drive.wears(load, trace);
            if (failure == 0) {
                pitch = pitch + by;
            }
            return failure;
        }

        void spin() {
            if (state == MAKING) {
                double next = torque + within(0.5, turns * 0.5 - torque);
                torque = next < 0.0 ? 0.0 : next;
            } else {
                torque = torque / 2.0;
            }
            double faster = turns + 0.1 * (wind * (1.0 - pitch / 90.0) - torque - 0.1 * turns);
            turns = faster > 0.0 ? faster : 0.0;
            if (torque * turns > bound) {
                torque = bound / turns;
            }
            energy = energy + torque * turns;
        }

        int wearBlades(Log trace) {
            if (state != MAKING) {
                return 0;
            }
            Part blade = slots[BLADE_SLOT];
            return blade == null ? NOTHING : blade.wears(Math.min(MOST_LOAD, (int) wind), trace);
        }

        long figure(int what) {
            switch (what) {
                case 0:
                    return state;
                case 1:
                    return Bits.of64(pitch);
                case 2:
                    return Bits.of64(torque);
                case 3:
                    return Bits.of64(turns);
                case 4:
                    return Bits.of64(energy);
                case 5:
                    return Bits.of64(bound);
                case 6:
                    return vote;
                case 7:
                    return Bits.of64(wind);
                default:
                    return serialIn(what - 8);
            }
        }

        private int serialIn(int slot) {
            Part part = slot >= 0 && slot < SLOTS ? slots[slot] : null;
            return part == null ? NONE : part.serial;
        }
    }

    private static final class Farm {
        final Turbine[] turbines;
        final Turbine[] queue;
        final int[] findings = new int[4 * MOST_FINDINGS];
        int findingsKept;
        int steps;
        int direction;
        boolean cold;

        Farm(int n) {
            turbines = new Turbine[n];
            queue = new Turbine[n];
            for (int t = 0; t < n; t++) {
                turbines[t] = new Turbine(t);
                queue[t] = turbines[t];
            }
        }

        /** How many FINDINGS came. */
        int stepOnce(Log trace) {
            lineUp();
            boolean leaveOutFrozen = cold && steps >= 2;
            steps++;
            int came = 0;
            for (int at = 0; at < queue.length; at++) {
                came = came + advance(at, leaveOutFrozen, trace);
            }
            for (int t = 0; t < turbines.length; t++) {
                turbines[t].rememberReadings();
            }
            return came;
        }

        private void lineUp() {
            int dx = DX[direction];
            int dy = DY[direction];
            for (int t = 0; t < turbines.length; t++) {
                Turbine turbine = turbines[t];
                turbine.line = turbine.x * dx + turbine.y * dy;
                turbine.cross = turbine.x * dy - turbine.y * dx;
                int at = t;
                while (at > 0 && queue[at - 1].line > turbine.line) {
                    queue[at] = queue[at - 1];
                    at--;
                }
                queue[at] = turbine;
            }
        }

        private int advance(int at, boolean leaveOutFrozen, Log trace) {
            Turbine turbine = queue[at];
            if (turbine.state == FAILED) {
                turbine.turns = turbine.turns * 0.5;
                return 0;
            }
            turbine.castVote(leaveOutFrozen);
            turbine.wind = turbine.isBlind() ? 0.0 : Bits.number(turbine.vote) * (1.0 - lossAt(at));
            turbine.changeState();
            int failure = turbine.turnBlades(trace);
            if (failure != 0) {
                return fail(turbine, DRIVE_SLOT, failure);
            }
            turbine.spin();
            failure = turbine.wearBlades(trace);
            return failure == 0 ? 0 : fail(turbine, BLADE_SLOT, failure);
        }

        /** What the wakes of those ahead in the queue take off its wind: 0.0 .. 1.0. */
        private double lossAt(int at) {
            Turbine turbine = queue[at];
            double squares = 0.0;
            for (int i = 0; i < at; i++) {
                Turbine ahead = queue[i];
                int p = turbine.line - ahead.line;
                int apart = Math.abs(turbine.cross - ahead.cross);
                if (ahead.state == MAKING && p > 0 && apart <= 3 + p / 4) {
                    double e = 1.0 + p * 0.1;
                    double d = 0.6 / (e * e);
                    squares = squares + d * d;
                }
            }
            double loss = Bits.root(squares);
            return loss > 1.0 ? 1.0 : loss;
        }

        private int fail(Turbine turbine, int slot, int failure) {
            turbine.state = FAILED;
            turbine.torque = 0.0;
            if (findingsKept < MOST_FINDINGS) {
                int at = 4 * findingsKept;
                findings[at] = turbine.number;
                findings[at + 1] = slot;
                findings[at + 2] = failure;
                findings[at + 3] = steps;
                findingsKept++;
            }
            return 1;
        }
    }

    /** Bits of numbers and back by arithmetic alone, since the language's own functions for that may not be used. */
    private static final class Bits {
        static final long NO_NUMBER = 0x7ff8000000000000L;
        static final long INFINITE = 0x7ff0000000000000L;
        static final long SIGN = 0x8000000000000000L;
        static final long FRACTION = 0x000fffffffffffffL;
        static final long LEADING_ONE = 0x0010000000000000L;

        /** Of BITS given for an item of a LANE the lowest that count. */
        static long kept(int lane, long bits) {
            switch (lane) {
                case BYTES:
                    return (byte) bits;
                case SHORTS:
                    return (short) bits;
                case CHARS:
                    return (char) bits;
                case INTS:
                    return (int) bits;
                case FLOATS:
                    return ((int) bits & 0x7fffffff) > 0x7f800000 ? 2143289344L : (int) bits;
                case DOUBLES:
                    return isNumber(bits) ? bits : NO_NUMBER;
                case TRUTHS:
                    return bits & 1L;
                default:
                    return bits;
            }
        }

        static boolean isNumber(long bits) {
            return (bits & ~SIGN) <= INFINITE;
        }

        static boolean isInfinite(double number) {
            return number > 1.7976931348623157E308 || number < -1.7976931348623157E308;
        }

        /** A long that is greater for the greater number, with -0.0 below 0.0. */
        private static long rank(long bits) {
            return bits < 0 ? bits ^ ~SIGN : bits;
        }

        /** Puts a number among n sorted ones. */
        static void sortIn(long[] sorted, int n, long bits) {
            int at = n;
            while (at > 0 && rank(sorted[at - 1]) > rank(bits)) {
                sorted[at] = sorted[at - 1];
                at--;
            }
            sorted[at] = bits;
        }

        /** Tests 0 .. 5 as the language has them: one that is no number passes 5 alone. */
        static boolean passes(long one, long other, int test) {
            if (!isNumber(one) || !isNumber(other)) {
                return test == 5;
            }
            boolean bothZero = ((one | other) & ~SIGN) == 0;
            int order = bothZero ? 0 : Long.compare(rank(one), rank(other));
            switch (test) {
                case 0:
                    return order < 0;
                case 1:
                    return order <= 0;
                case 2:
                    return order > 0;
                case 3:
                    return order >= 0;
                case 4:
                    return order == 0;
                default:
                    return order != 0;
            }
        }

        /** A number times two to a power; exact wherever the outcome is a double. */
        private static double scaled(double number, int power) {
            double outcome = number;
            double factor = power < 0 ? 0.5 : 2.0;
            for (int left = Math.abs(power); left > 0; left = left / 2) {
                if (left % 2 == 1) {
                    outcome = outcome * factor;
                }
                factor = factor * factor;
            }
            return outcome;
        }

        /** The double with these bits, which are a number's. */
        static double number(long bits) {
            int exponent = (int) (bits >>> 52) & 0x7ff;
            double size;
            if (exponent == 0x7ff) {
                size = 1.0E300 * 1.0E300;
            } else if (exponent == 0) {
                size = scaled((double) (bits & FRACTION), -1074);
            } else {
                size = scaled((double) (bits & FRACTION | LEADING_ONE), exponent - 1075);
            }
            return bits < 0 ? size * -1.0 : size;
        }

        /** The bits of a double that is a number. */
        static long of64(double number) {
            if (number == 0.0) {
                // nothing but a quotient tells -0.0 from 0.0
                return 1.0 / number < 0.0 ? SIGN : 0L;
            }
            long sign = number < 0.0 ? SIGN : 0L;
            if (isInfinite(number)) {
                return sign | INFINITE;
            }
            double size = number < 0.0 ? 0.0 - number : number;
            int exponent = 1075;
            while (size >= 9007199254740992.0 && exponent < 2046) {
                size = size * 0.5;
                exponent++;
            }
            while (size < 4503599627370496.0 && exponent > 1) {
                size = size * 2.0;
                exponent--;
            }
            long digits = (long) size;
            // below the leading one at the least exponent: those numbers are written with exponent 0
            return digits < LEADING_ONE ? sign | digits : sign | (long) exponent << 52 | digits & FRACTION;
        }

        /** The bits as a double of a float with these bits. */
        static long widened(long bits) {
            long sign = bits < 0 ? SIGN : 0L;
            int exponent = (int) (bits >>> 23) & 0xff;
            long fraction = bits & 0x7fffffL;
            if (exponent == 0xff) {
                return fraction != 0 ? NO_NUMBER : sign | INFINITE;
            }
            if (exponent == 0) {
                return sign | of64(scaled((double) fraction, -149));
            }
            return sign | (long) (exponent + 896) << 52 | fraction << 29;
        }

        /**
         * The square root of 0.0 .. 2.0, rounded as the language rounds it: its 53 digits and one more come
         * one by one from pairs of the square's, and the one more cannot stand for just a half.
         */
        static double root(double square) {
            if (square <= 0.0) {
                return 0.0;
            }
            double size = square;
            int halvings = 26;
            while (size < 4503599627370496.0 && halvings < 1000) {
                size = size * 4.0;
                halvings++;
            }
            long digits = (long) size;
            long rest = 0L;
            long root = 0L;
            for (int pair = 53; pair >= 0; pair--) {
                long next = pair >= 27 ? digits >> 2 * (pair - 27) & 3L : 0L;
                rest = rest << 2 | next;
                long trial = root << 2 | 1L;
                root = root << 1;
                if (rest >= trial) {
                    rest = rest - trial;
                    root = root | 1L;
                }
            }
            return scaled((double) (root + 1L >> 1), -halvings);
        }
    }
}
