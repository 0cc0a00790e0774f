import java.util.ArrayList;
import java.util.Arrays;
import java.util.IdentityHashMap;
import java.util.List;
import java.util.Map;

/**
 * The document told once more, by what the machine itself has: real arrays, casts, subclasses, exceptions and
 * the library's functions of doubles. RandomRunsTest holds WindPark against it.
 */
final class Model {
    static final int NONE = -1, UNKNOWN = -2, OUTSIDE = -3, STATE = -4, ROOM = -5;

    /** A refusal, or with a code of -10 less it a FAILURE that the machine does not have. */
    static final class Refusal extends RuntimeException {
        private static final long serialVersionUID = 1L;
        final int code;

        Refusal(int code) {
            super(null, null, false, false);
            this.code = code;
        }
    }

    static final class Answer extends RuntimeException {
        private static final long serialVersionUID = 1L;
        final int value;

        Answer(int value) {
            super(null, null, false, false);
            this.value = value;
        }
    }

    interface Call {
        long answer();
    }

    interface Sensor {
    }

    abstract static class Part {
        final int serial;
        final Model park;
        long wear;

        Part(Model park, int serial) {
            this.park = park;
            this.serial = serial;
        }

        abstract int kind();

        abstract long limit();

        long cost() {
            park.tell(21);
            return 10 * limit();
        }

        long wears(int load) {
            park.tell(31);
            return load;
        }
    }

    static final class Cups extends Part implements Sensor {
        Cups(Model park, int serial) { super(park, serial); }
        int kind() { return 0; }
        long limit() { park.tell(11); return 40; }
    }

    static class Vane extends Part implements Sensor {
        Vane(Model park, int serial) { super(park, serial); }
        int kind() { return 1; }
        long limit() { park.tell(12); return 30; }
    }

    static final class Sonic extends Vane {
        Sonic(Model park, int serial) { super(park, serial); }
        @Override int kind() { return 2; }
        @Override long limit() { park.tell(13); return super.limit() + 20; }
    }

    static class Drive extends Part {
        Drive(Model park, int serial) { super(park, serial); }
        int kind() { return 3; }
        long limit() { park.tell(14); return 50; }
        @Override long wears(int load) { park.tell(32); return load * load / limit(); }
    }

    static final class Pitch extends Drive {
        Pitch(Model park, int serial) { super(park, serial); }
        @Override int kind() { return 4; }
        @Override long limit() { park.tell(15); return 2 * super.limit(); }
        @Override long wears(int load) { park.tell(33); return super.wears(load) + load / serial; }
    }

    static class Blade extends Part {
        Blade(Model park, int serial) { super(park, serial); }
        int kind() { return 5; }
        long limit() { park.tell(16); return 60; }
    }

    static final class Heavy extends Blade {
        Heavy(Model park, int serial) { super(park, serial); }
        @Override int kind() { return 6; }
        @Override long limit() { park.tell(17); return super.limit() + serial % 10; }
        @Override long cost() { park.tell(22); return 15 * limit(); }
    }

    static final class Turbine {
        int number, x, y, held, state;
        final Part[] slots = new Part[5];
        final double[] readings = {Double.NaN, Double.NaN, Double.NaN};
        final List<double[]> history = new ArrayList<>();
        double pitch = 90.0, torque, turns, energy, bound = 1000.0, vote, wind;

        boolean blind() {
            return Double.isNaN(vote);
        }
    }

    private static final Class<?>[] KINDS = {Cups.class, Vane.class, Sonic.class, Drive.class, Pitch.class,
        Blade.class, Heavy.class, Sensor.class};
    private static final Class<?>[] FORMS = {byte[].class, short[].class, char[].class, int[].class, long[].class,
        float[].class, double[].class, boolean[].class, int[][].class};
    private static final int[][] WAYS = {{1, 0}, {1, 1}, {0, 1}, {-1, 1}, {-1, 0}, {-1, -1}, {0, -1}, {1, -1}};

    private Object[] cases = new Object[24];
    private final List<List<int[]>> plans = new ArrayList<>();
    private final List<Turbine> turbines = new ArrayList<>();
    private final List<int[]> findings = new ArrayList<>();
    private final List<Integer> trace = new ArrayList<>();
    private List<Integer> log = new ArrayList<>();
    private List<Object[]> hand = new ArrayList<>();
    private int parts, why, steps, direction, last, actSteps, deepest, cause, wentBack, answered;
    private boolean cold;

    Model(int n) {
        for (int t = 0; t < Math.max(1, Math.min(6, n)); t++) {
            turbines.add(new Turbine());
            turbines.get(t).number = t;
        }
        for (int plan = 0; plan < 10; plan++) {
            plans.add(new ArrayList<>());
        }
    }

    private void tell(int body) {
        if (trace.size() < 60) {
            trace.add(body);
        }
    }

    private static int codeOf(RuntimeException met) {
        if (met instanceof Refusal) return ((Refusal) met).code;
        if (met instanceof NullPointerException) return -11;
        if (met instanceof IndexOutOfBoundsException) return -12;
        if (met instanceof NegativeArraySizeException) return -13;
        if (met instanceof ClassCastException) return -14;
        if (met instanceof ArrayStoreException) return -15;
        if (met instanceof ArithmeticException) return -16;
        throw met;
    }

    private long answer(boolean known, boolean asTold, Call call, boolean zeroIfRefused) {
        why = 0;
        try {
            if (!known) throw new Refusal(UNKNOWN);
            if (!asTold) throw new Refusal(OUTSIDE);
            return call.answer();
        } catch (RuntimeException met) {
            why = codeOf(met);
            return zeroIfRefused ? 0 : why;
        }
    }

    private int code(boolean known, boolean asTold, Call call) {
        return (int) answer(known, asTold, call, false);
    }

    private static boolean within(long number, long from, long to) {
        return from <= number && number <= to;
    }

    private static boolean isCase(int c) {
        return within(c, 0, 23);
    }

    private boolean isTurbine(int t) {
        return within(t, 0, turbines.size() - 1);
    }

    private static Object newRow(int lane, int n) {
        return java.lang.reflect.Array.newInstance(FORMS[lane].getComponentType(), n);
    }

    int row(int c, int lane, int n) {
        return code(isCase(c), within(lane, 0, 7) && n <= 30, () -> {
            cases[c] = newRow(lane, n);
            return n;
        });
    }

    int grid(int c, int n, int m) {
        return code(isCase(c), n <= 8 && m <= 12, () -> {
            if (m < -1) throw new NegativeArraySizeException();
            cases[c] = m == -1 ? new int[n][] : new int[n][m];
            return n;
        });
    }

    int cradle(int c, int kind, int n) {
        return code(isCase(c), within(kind, 0, 7) && n <= 8, () -> {
            cases[c] = java.lang.reflect.Array.newInstance(KINDS[kind], n);
            return n;
        });
    }

    private Part newPart(int kind, int serial) {
        switch (kind) {
            case 0: return new Cups(this, serial);
            case 1: return new Vane(this, serial);
            case 2: return new Sonic(this, serial);
            case 3: return new Drive(this, serial);
            case 4: return new Pitch(this, serial);
            case 5: return new Blade(this, serial);
            default: return new Heavy(this, serial);
        }
    }

    int part(int c, int kind) {
        return code(isCase(c), within(kind, 0, 6), () -> {
            if (parts == 60) throw new Refusal(ROOM);
            cases[c] = newPart(kind, parts);
            return parts++;
        });
    }

    int set(int c, int d) {
        return code(isCase(c) && isCase(d), true, () -> {
            Object was = cases[d];
            cases[d] = cases[c];
            return was == cases[c] ? 0 : 1;
        });
    }

    int clear(int c) {
        return code(isCase(c), true, () -> {
            Object was = cases[c];
            cases[c] = null;
            return was == null ? 0 : 1;
        });
    }

    private static int formOf(Object thing) {
        if (thing == null) return NONE;
        if (thing instanceof Part) return 10;
        int form = Arrays.asList(FORMS).indexOf(thing.getClass());
        return form >= 0 ? form : 9;
    }

    int holds(int c) {
        return code(isCase(c), true, () -> formOf(cases[c]));
    }

    int put(int c, int lane, int i, long bits) {
        return code(isCase(c), within(lane, 0, 7), () -> {
            Object o = cases[c];
            switch (lane) {
                case 0: ((byte[]) o)[i] = (byte) bits; break;
                case 1: ((short[]) o)[i] = (short) bits; break;
                case 2: ((char[]) o)[i] = (char) bits; break;
                case 3: ((int[]) o)[i] = (int) bits; break;
                case 4: ((long[]) o)[i] = bits; break;
                case 5: ((float[]) o)[i] = Float.intBitsToFloat((int) bits); break;
                case 6: ((double[]) o)[i] = Double.longBitsToDouble(bits); break;
                default: ((boolean[]) o)[i] = (bits & 1) == 1;
            }
            return 1;
        });
    }

    private static long bitsOf(Object o, int lane, int i) {
        switch (lane) {
            case 0: return ((byte[]) o)[i];
            case 1: return ((short[]) o)[i];
            case 2: return ((char[]) o)[i];
            case 3: return ((int[]) o)[i];
            case 4: return ((long[]) o)[i];
            case 5: return Float.floatToIntBits(((float[]) o)[i]);
            case 6: return Double.doubleToLongBits(((double[]) o)[i]);
            default: return ((boolean[]) o)[i] ? 1 : 0;
        }
    }

    long get(int c, int lane, int i) {
        return answer(isCase(c), within(lane, 0, 7), () -> bitsOf(cases[c], lane, i), true);
    }

    int putAt(int c, int i, int j, int v) {
        return code(isCase(c), true, () -> {
            ((int[][]) cases[c])[i][j] = v;
            return 1;
        });
    }

    int getAt(int c, int i, int j) {
        return (int) answer(isCase(c), true, () -> ((int[][]) cases[c])[i][j], true);
    }

    int link(int c, int i, int d) {
        return code(isCase(c) && isCase(d), true, () -> {
            int[][] grid = (int[][]) cases[c];
            int[] row = (int[]) cases[d];
            grid[i] = row;
            return 1;
        });
    }

    private static Object[] asCradle(Object o) {
        return o == null || o instanceof Part[] ? (Part[]) o : (Object[]) (Sensor[]) o;
    }

    int lay(int c, int i, int d) {
        return code(isCase(c) && isCase(d), true, () -> {
            Object[] cradle = asCradle(cases[c]);
            Part part = (Part) cases[d];
            cradle[i] = part;
            return 1;
        });
    }

    int lift(int c, int i, int kind, int d) {
        return code(isCase(c) && isCase(d), within(kind, 0, 7), () -> {
            cases[d] = KINDS[kind].cast(asCradle(cases[c])[i]);
            return 1;
        });
    }

    @SuppressWarnings("SuspiciousSystemArraycopy")
    int copy(int c, int i, int d, int j, int n) {
        return code(isCase(c) && isCase(d), true, () -> {
            System.arraycopy(cases[c], i, cases[d], j, n);
            return n;
        });
    }

    int length(int c, int as) {
        return code(isCase(c), within(as, 0, 9), () -> java.lang.reflect.Array.getLength(
            as == 9 ? asCradle(cases[c]) : FORMS[as].cast(cases[c])));
    }

    private static boolean sameRows(Object one, Object other) {
        int form = formOf(one);
        int n = java.lang.reflect.Array.getLength(one);
        boolean same = form == formOf(other) && n == java.lang.reflect.Array.getLength(other);
        for (int i = 0; same && i < n; i++) {
            same = bitsOf(one, form, i) == bitsOf(other, form, i);
        }
        return same;
    }

    private static boolean sameThings(Object one, Object other) {
        if (one == null || other == null || one.getClass() != other.getClass() || one instanceof Part) return false;
        if (formOf(one) < 8) return sameRows(one, other);
        Object[] a = (Object[]) one;
        Object[] b = (Object[]) other;
        boolean same = a.length == b.length;
        for (int i = 0; same && i < a.length; i++) {
            same = a[i] == b[i] || (a[i] != null && b[i] != null && formOf(one) == 8 && sameRows(a[i], b[i]));
        }
        return same;
    }

    int alike(int c, int d) {
        return code(isCase(c) && isCase(d), true,
            () -> cases[c] == cases[d] ? 1 : sameThings(cases[c], cases[d]) ? 2 : 0);
    }

    long ask(int c, int member, int load) {
        return answer(isCase(c), within(member, 0, 2) && within(load, 0, 10000), () -> {
            Part part = (Part) cases[c];
            if (member < 2) return member == 0 ? part.limit() : part.cost();
            long told = part.wears(load);
            part.wear += told;
            return told;
        }, true);
    }

    long told(int c, int what) {
        return answer(isCase(c), within(what, 0, 2), () -> {
            Part part = (Part) cases[c];
            return what == 0 ? part.kind() : what == 1 ? part.serial : part.wear;
        }, true);
    }

    int traced(int i) {
        return code(true, true, () -> within(i, 0, trace.size() - 1) ? trace.get(i) : NONE);
    }

    int forget() {
        int had = trace.size();
        trace.clear();
        return code(true, true, () -> had);
    }

    private double[] doublesOf(int c, int lane) {
        if (lane == 6) return (double[]) cases[c];
        float[] floats = (float[]) cases[c];
        double[] doubles = new double[floats.length];
        for (int i = 0; i < floats.length; i++) {
            doubles[i] = floats[i];
        }
        return doubles;
    }

    long seconds(int c, int lane, int what) {
        return answer(isCase(c), within(lane, 5, 6) && within(what, 0, 5), () -> {
            double[] measured = Arrays.stream(doublesOf(c, lane)).filter(d -> !Double.isNaN(d)).toArray();
            int n = measured.length;
            double sum = 0.0;
            for (double number : measured) {
                sum += number;
            }
            Arrays.sort(measured);
            if (what == 5) return n;
            if (what == 4) return (long) sum / n;
            double told = what == 2 ? sum / n : n == 0 ? Double.NaN
                : what == 0 ? measured[n - 1] : what == 1 ? measured[0] : measured[(n - 1) / 2];
            return Double.doubleToLongBits(told);
        }, true);
    }

    int test(int c, int lane, int i, int j, int t) {
        return code(isCase(c), within(lane, 5, 6) && within(t, 0, 11), () -> {
            double[] row = doublesOf(c, lane);
            double a = row[i];
            double b = row[j];
            boolean[] passed = {a < b, a <= b, a > b, a >= b, a == b, a != b};
            return passed[t % 6] != t > 5 ? 1 : 0;
        });
    }

    private boolean named(int op, int a, int b, int c) {
        boolean known = op > 2 || isCase(a);
        known &= op < 10 || isTurbine(a);
        known &= op < 12 || within(b, 0, 4);
        known &= !within(op, 7, 9) || within(a, 0, 9);
        known &= !within(op, 9, 10) || within(b, 0, 9);
        return known && (op != 8 || within(c, 0, 9));
    }

    int step(int plan, int op, int a, int b, int c) {
        return code(within(plan, 0, 9), within(op, 0, 13), () -> {
            if (!named(op, a, b, c)) throw new Refusal(UNKNOWN);
            if (op == 6 && !within(a, 1, 8) || op == 8 && !within(b, 0, 8)) throw new Refusal(OUTSIDE);
            if (plans.get(plan).size() == 16) throw new Refusal(ROOM);
            plans.get(plan).add(new int[] {op, a, b, c});
            return plans.get(plan).size();
        });
    }

    int drop(int plan) {
        return code(within(plan, 0, 9), true, () -> {
            int had = plans.get(plan).size();
            plans.get(plan).clear();
            return had;
        });
    }

    int act(int plan) {
        return code(within(plan, 0, 9), true, () -> {
            log = new ArrayList<>();
            hand = new ArrayList<>();
            last = actSteps = deepest = cause = wentBack = answered = 0;
            Object[] casesAhead = cases.clone();
            List<Part[]> slotsAhead = new ArrayList<>();
            turbines.forEach(turbine -> slotsAhead.add(turbine.slots.clone()));
            Map<int[], int[]> itemsAhead = new IdentityHashMap<>();
            for (Object thing : cases) {
                if (thing instanceof int[]) itemsAhead.put((int[]) thing, ((int[]) thing).clone());
            }
            int answer = 0;
            try {
                doPlan(plan, 1);
            } catch (Answer given) {
                answered = given.value;
                answer = 1;
            } catch (RuntimeException failure) {
                cases = casesAhead;
                turbines.forEach(turbine ->
                    System.arraycopy(slotsAhead.get(turbine.number), 0, turbine.slots, 0, 5));
                itemsAhead.forEach((row, items) -> System.arraycopy(items, 0, row, 0, row.length));
                throw failure;
            }
            bringBackHand();
            return answer;
        });
    }

    private void bringBackHand() {
        for (int i = hand.size() - 1; i >= 0; i--) {
            int c = (Integer) hand.get(i)[1];
            if (cases[c] != null) c = Arrays.asList(cases).indexOf(null);
            if (c >= 0) {
                cases[c] = hand.get(i)[0];
                wentBack++;
            }
        }
    }

    private void doPlan(int plan, int depth) {
        if (depth == 9) throw new Refusal(-18);
        deepest = Math.max(deepest, depth);
        for (int[] step : plans.get(plan)) {
            if (actSteps == 100) throw new Refusal(-19);
            actSteps++;
            doStep(step[0], step[1], step[2], step[3], depth);
        }
    }

    private void doStep(int op, int a, int b, int c, int depth) {
        switch (op) {
            case 0:
                if (cases[a] == null) throw new NullPointerException();
                hand.add(new Object[] {cases[a], a});
                cases[a] = null;
                break;
            case 1:
                if (hand.isEmpty()) throw new NullPointerException();
                if (cases[a] != null) throw new ArrayStoreException();
                cases[a] = hand.remove(hand.size() - 1)[0];
                break;
            case 2: ((int[]) cases[a])[b] = c; break;
            case 3: log.add(a); break;
            case 4: throw new Answer(a);
            case 5: log.add(last); break;
            case 6: throw new Refusal(-10 - a);
            case 7:
                try {
                    doPlan(a, depth + 1);
                } catch (Answer given) {
                    last = given.value;
                }
                break;
            case 8: doTry(a, b, c, depth + 1); break;
            case 9: doFinally(a, b, depth + 1); break;
            case 10:
                turbines.get(a).held++;
                try {
                    doPlan(b, depth + 1);
                } finally {
                    turbines.get(a).held--;
                }
                break;
            case 11:
                if (turbines.get(a).held == 0) throw new Refusal(-17);
                log.add(turbines.get(a).held);
                break;
            case 12: fit(turbines.get(a), b); break;
            default: strip(turbines.get(a), b);
        }
    }

    private void doTry(int a, int b, int c, int depth) {
        try {
            doPlan(a, depth);
        } catch (Answer given) {
            throw given;
        } catch (RuntimeException failure) {
            int code = -10 - codeOf(failure);
            if (code == 9 || b != 0 && b != code) throw failure;
            doPlan(c, depth);
        }
    }

    private void doFinally(int a, int b, int depth) {
        RuntimeException end = null;
        try {
            doPlan(a, depth);
        } catch (RuntimeException ended) {
            end = ended;
        }
        boolean failure = end != null && !(end instanceof Answer);
        if (failure && codeOf(end) == -19) throw end;
        try {
            doPlan(b, depth);
        } catch (RuntimeException instead) {
            if (failure) cause = -10 - codeOf(end);
            throw instead;
        }
        if (end != null) throw end;
    }

    private void fit(Turbine turbine, int slot) {
        if (turbine.held == 0 && slot > 2) throw new Refusal(-17);
        if (hand.isEmpty()) throw new NullPointerException();
        Class<?> wanted = slot < 3 ? Sensor.class : slot == 3 ? Drive.class : Blade.class;
        Part part = (Part) wanted.cast(hand.get(hand.size() - 1)[0]);
        Part old = turbine.slots[slot];
        hand.remove(hand.size() - 1);
        turbine.slots[slot] = part;
        if (old != null) hand.add(new Object[] {old, 23});
    }

    private void strip(Turbine turbine, int slot) {
        if (turbine.held == 0 && slot > 2) throw new Refusal(-17);
        if (turbine.slots[slot] == null) throw new NullPointerException();
        hand.add(new Object[] {turbine.slots[slot], 23});
        turbine.slots[slot] = null;
    }

    int acted(int what) {
        int[] told = {answered, actSteps, deepest, log.size(), cause, wentBack};
        return code(true, within(what, 0, 5), () -> told[what]);
    }

    int said(int i) {
        return code(true, true, () -> within(i, 0, Math.min(60, log.size()) - 1) ? log.get(i) : 0);
    }

    int place(int t, int x, int y) {
        return code(isTurbine(t), within(x, -100, 100) && within(y, -100, 100), () -> {
            turbines.get(t).x = x;
            turbines.get(t).y = y;
            return 1;
        });
    }

    int read(int t, int sensor, long bits) {
        double number = Double.longBitsToDouble(bits);
        return code(isTurbine(t) && within(sensor, 0, 2), !(Math.abs(number) > 1000.0), () -> {
            turbines.get(t).readings[sensor] = number;
            return 1;
        });
    }

    int wind(int toward, boolean isCold) {
        return code(true, within(toward, 0, 7), () -> {
            direction = toward;
            cold = isCold;
            return 1;
        });
    }

    int bound(int t, long bits) {
        double number = Double.longBitsToDouble(bits);
        return code(isTurbine(t), number >= 0.0, () -> {
            turbines.get(t).bound = number;
            return 1;
        });
    }

    int run(int n) {
        return code(true, within(n, 1, 40), () -> {
            int had = findings.size();
            for (int i = 0; i < n; i++) {
                stepFarm();
            }
            return findings.size() - had;
        });
    }

    private int line(Turbine turbine) {
        return turbine.x * WAYS[direction][0] + turbine.y * WAYS[direction][1];
    }

    private int cross(Turbine turbine) {
        return turbine.x * WAYS[direction][1] - turbine.y * WAYS[direction][0];
    }

    private void stepFarm() {
        steps++;
        List<Turbine> order = new ArrayList<>(turbines);
        order.sort((one, other) -> Integer.compare(line(one), line(other)));
        for (int i = 0; i < order.size(); i++) {
            Turbine turbine = order.get(i);
            if (turbine.state == 4) {
                turbine.turns = turbine.turns * 0.5;
            } else {
                stepTurbine(turbine, order.subList(0, i));
            }
        }
        turbines.forEach(turbine -> turbine.history.add(turbine.readings.clone()));
    }

    private double vote(Turbine turbine) {
        List<Double> votes = new ArrayList<>();
        int before = turbine.history.size();
        for (int s = 0; s < 3; s++) {
            Double reading = turbine.readings[s];
            boolean moved = !cold || before < 2 || !reading.equals(turbine.history.get(before - 1)[s])
                || !reading.equals(turbine.history.get(before - 2)[s]);
            if (turbine.slots[s] != null && !reading.isNaN() && moved) votes.add(reading);
        }
        votes.sort(null);
        return votes.isEmpty() ? Double.NaN : votes.get(votes.size() == 3 ? 1 : 0);
    }

    private void stepTurbine(Turbine t, List<Turbine> ahead) {
        t.vote = vote(t);
        double sum = 0.0;
        for (Turbine other : ahead) {
            int p = line(t) - line(other);
            if (other.state == 2 && p > 0 && Math.abs(cross(t) - cross(other)) <= 3 + p / 4) {
                double e = 1.0 + p * 0.1;
                double d = 0.6 / (e * e);
                sum = sum + d * d;
            }
        }
        t.wind = t.blind() ? 0.0 : t.vote * (1.0 - Math.min(1.0, Math.sqrt(sum)));
        t.state = nextState(t);
        int slot = 3;
        try {
            turnBlades(t);
            spin(t);
            slot = 4;
            if (t.state == 2) wear(t.slots[4], (int) Math.min(10000.0, t.wind));
        } catch (NullPointerException | ArithmeticException failure) {
            t.state = 4;
            t.torque = 0.0;
            findings.add(new int[] {t.number, slot, -10 - codeOf(failure), steps});
        }
    }

    private static int nextState(Turbine t) {
        switch (t.state) {
            case 0: return !t.blind() && t.wind >= 4.0 && t.bound > 0.0 ? 1 : 0;
            case 1: return t.blind() || t.turns > 16.0 ? 3 : t.turns >= 6.0 ? 2 : 1;
            case 2: return t.blind() || t.turns > 16.0 ? 3 : 2;
            default: return t.turns < 0.5 ? 0 : 3;
        }
    }

    private static void wear(Part part, int load) {
        part.wear += part.wears(load);
    }

    private static void turnBlades(Turbine t) {
        double goal = t.state == 1 ? 20.0 : t.state != 2 ? 90.0
            : t.turns <= 10.0 ? 0.0 : Math.min(90.0, (t.turns - 10.0) * 8.0);
        double rate = t.state == 3 ? 12.0 : 6.0;
        double by = Math.max(-rate, Math.min(rate, goal - t.pitch));
        if (by != 0.0) {
            wear(t.slots[3], (int) Math.abs(by));
            t.pitch = t.pitch + by;
        }
    }

    private static void spin(Turbine t) {
        if (t.state == 2) {
            double q = t.torque + Math.max(-0.5, Math.min(0.5, t.turns * 0.5 - t.torque));
            t.torque = q < 0.0 ? 0.0 : q;
        } else {
            t.torque = t.torque / 2.0;
        }
        t.turns = Math.max(0.0,
            t.turns + 0.1 * (t.wind * (1.0 - t.pitch / 90.0) - t.torque - 0.1 * t.turns));
        if (t.torque * t.turns > t.bound) t.torque = t.bound / t.turns;
        t.energy = t.energy + t.torque * t.turns;
    }

    int reset(int t) {
        return code(isTurbine(t), true, () -> {
            if (turbines.get(t).state != 4) throw new Refusal(STATE);
            turbines.get(t).state = 0;
            return 1;
        });
    }

    long of(int t, int what) {
        return answer(isTurbine(t), within(what, 0, 12), () -> {
            Turbine turbine = turbines.get(t);
            if (what == 0) return turbine.state;
            if (what > 7) return turbine.slots[what - 8] == null ? NONE : turbine.slots[what - 8].serial;
            double[] told = {turbine.pitch, turbine.torque, turbine.turns, turbine.energy, turbine.bound,
                turbine.vote, turbine.wind};
            return Double.doubleToLongBits(told[what - 1]);
        }, true);
    }

    int finding(int i, int what) {
        return code(true, within(what, 0, 3), () -> within(i, 0, count4() - 1) ? findings.get(i)[what] : NONE);
    }

    private int count4() {
        return Math.min(40, findings.size());
    }

    int why() {
        return why;
    }

    int count(int what) {
        int full = (int) Arrays.stream(cases).filter(thing -> thing != null).count();
        int[] told = {turbines.size(), parts, full, steps, count4(), trace.size()};
        return code(true, within(what, 0, 5), () -> told[what]);
    }
}
