import java.lang.reflect.Method;
import java.util.ArrayList;
import java.util.Arrays;
import java.util.HashMap;
import java.util.List;
import java.util.Map;
import java.util.Set;

/**
 * "REFUSED (nothing changes), the first that fits: UNKNOWN, OUTSIDE, STATE, ROOM; then FAILURES", call by call: what is
 * answered, what why() tells, and that a park with the refused call cannot be told from one without it.
 */
public final class RefusalsTest {
    private static final int UNKNOWN = WindPark.UNKNOWN, OUTSIDE = WindPark.OUTSIDE, STATE = WindPark.STATE, ROOM = WindPark.ROOM;
    private static final int NOTHING = -11, INDEX = -12, SIZE = -13, CAST = -14, STORE = -15;
    private static final int MOST = Integer.MAX_VALUE, LEAST = Integer.MIN_VALUE;
    private static final int[] NO_CASES = {-1, 24, LEAST, MOST};
    private static final int[] NO_PLANS = {-1, 10, LEAST, MOST};
    private static final int EMPTY = 20, GRID = 8, VANES = 9, PART = 10, SENSORS = 12, PITCH_0 = 13;
    /** Their answer is 0 if they are refused. */
    private static final Set<String> ANSWER_0 = Set.of("get", "getAt", "ask", "told", "seconds", "of");

    private static final Map<String, Method> METHODS = methods();
    private static final List<List<Long>> RICH = looksAt(false);
    private static final List<List<Long>> FULL = looksAt(true);

    public static void main(String[] args) throws ReflectiveOperationException {
        parksAreAsTold();
        rows();
        grids();
        cradles();
        parts();
        casesAlone();
        items();
        itemsOfGrids();
        links();
        lays();
        lifts();
        copies();
        lengths();
        asks();
        tells();
        seconds();
        tests();
        steps();
        stepsOfOtherTurbines();
        plansAlone();
        places();
        readings();
        windsAndBounds();
        runsAndResets();
        looks();
        looksChangeNothing();
        Due.end("RefusalsTest");
    }

    private static Map<String, Method> methods() {
        Map<String, Method> methods = new HashMap<>();
        for (Method method : WindPark.class.getMethods()) {
            if (method.getDeclaringClass() == WindPark.class) {
                methods.put(method.getName(), method);
            }
        }
        return methods;
    }

    private static WindPark park(boolean full) {
        return full ? Parks.full() : Parks.rich();
    }

    private static List<List<Long>> looksAt(boolean full) {
        List<List<Long>> looks = new ArrayList<>();
        for (int look = 0; look < Look.LOOKS; look++) {
            looks.add(Look.at(park(full), look));
        }
        return looks;
    }

    private static void refused(int promise, int code, String name, Object... arguments) throws ReflectiveOperationException {
        refused(promise, false, code, name, arguments);
    }

    private static void refusedIfFull(int promise, int code, String name, Object... arguments) throws ReflectiveOperationException {
        refused(promise, true, code, name, arguments);
    }

    /** A call that answers and leaves all as it is. */
    private static void harmless(int promise, String name, Object... arguments) throws ReflectiveOperationException {
        String words = name + Arrays.toString(arguments);
        for (int look = 0; look < Look.LOOKS; look++) {
            WindPark park = park(false);
            METHODS.get(name).invoke(park, arguments);
            Due.is(38, "why() behind " + words, park.why(), 0);
            boolean same = Look.at(park, look).equals(RICH.get(look));
            Due.is(promise, "nothing is changed by " + words + ", look " + look, same ? 1 : 0, 1);
        }
    }

    private static void refused(int promise, boolean full, int code, String name, Object[] arguments)
            throws ReflectiveOperationException {
        String words = name + Arrays.toString(arguments);
        for (int look = 0; look < Look.LOOKS; look++) {
            WindPark park = park(full);
            Number answer = (Number) METHODS.get(name).invoke(park, arguments);
            Due.is(promise, words, answer.longValue(), ANSWER_0.contains(name) ? 0 : code);
            Due.is(38, "why() behind " + words, park.why(), code);
            Due.is(38, "why() behind why() behind " + words, park.why(), code);
            boolean same = Look.at(park, look).equals((full ? FULL : RICH).get(look));
            Due.is(promise, "nothing is changed by " + words + ", look " + look, same ? 1 : 0, 1);
        }
    }

    /** What the lists below build on. */
    private static void parksAreAsTold() {
        WindPark park = Parks.rich();
        Due.is(38, "the park's last call was not refused", park.why(), 0);
        int[] forms = {0, 1, 2, 3, 4, 5, 6, 7, 8, 9, 10, 3, 9, 10, 10, 10, -1, -1, -1, -1, -1, -1, -1, 3};
        for (int c = 0; c < 24; c++) {
            Due.is(8, "the form in case " + c, park.holds(c), forms[c]);
        }
        int[] acted = {9, 6, 2, 1, 2, 1};
        for (int what = 0; what < 6; what++) {
            Due.is(28, "acted", park.acted(what), acted[what]);
        }
        Due.is(36, "turbine 0", park.of(0, 0), 2);
        Due.is(36, "turbine 1", park.of(1, 0), 2);
        Due.is(36, "turbine 2", park.of(2, 0), 4);
        Due.is(36, "the wake", Double.longBitsToDouble(park.of(1, 7)) < 10.0 ? 1 : 0, 1);
        Due.is(39, "the trace", park.count(5), 1);
        Due.is(39, "findings", park.count(4), 1);
        Due.is(20, "serial 0", park.told(PITCH_0, 1), 0);
    }

    /** "UNKNOWN; OUTSIDE: LANE, n above 30; SIZE." */
    private static void rows() throws ReflectiveOperationException {
        for (int c : NO_CASES) {
            refused(2, UNKNOWN, "row", c, 3, 1);
            refused(2, UNKNOWN, "row", c, 8, 1);
            refused(2, UNKNOWN, "row", c, 3, 31);
            refused(2, UNKNOWN, "row", c, 3, -1);
        }
        refused(2, OUTSIDE, "row", 3, -1, 1);
        refused(2, OUTSIDE, "row", 3, 8, 1);
        refused(2, OUTSIDE, "row", 3, LEAST, 1);
        refused(2, OUTSIDE, "row", 3, MOST, 1);
        refused(2, OUTSIDE, "row", 3, 3, 31);
        refused(2, OUTSIDE, "row", 3, 3, MOST);
        refused(2, OUTSIDE, "row", 3, -1, -1);
        refused(2, OUTSIDE, "row", EMPTY, 8, -1);
        for (int lane = 0; lane < 8; lane++) {
            refused(2, SIZE, "row", 3, lane, -1);
            refused(2, OUTSIDE, "row", EMPTY, lane, 31);
        }
        refused(2, SIZE, "row", EMPTY, 0, LEAST);
    }

    /** "UNKNOWN; OUTSIDE: n, m above; SIZE: n below 0, m below -1." */
    private static void grids() throws ReflectiveOperationException {
        for (int c : NO_CASES) {
            refused(3, UNKNOWN, "grid", c, 1, 1);
            refused(3, UNKNOWN, "grid", c, 9, 1);
            refused(3, UNKNOWN, "grid", c, 1, 13);
            refused(3, UNKNOWN, "grid", c, -1, -2);
        }
        int[][] outside = {{9, 1}, {1, 13}, {9, -1}, {0, 13}, {MOST, 1}, {1, MOST}, {9, -2}, {-1, 13}, {9, LEAST}, {LEAST, 13}};
        for (int[] size : outside) {
            refused(3, OUTSIDE, "grid", GRID, size[0], size[1]);
        }
        int[][] below = {{-1, 1}, {1, -2}, {-1, -1}, {0, -2}, {-1, 0}, {8, -2}, {-1, 12}, {-1, -2}, {LEAST, 1}, {1, LEAST}};
        for (int[] size : below) {
            refused(3, SIZE, "grid", GRID, size[0], size[1]);
        }
    }

    /** "UNKNOWN; OUTSIDE; SIZE." */
    private static void cradles() throws ReflectiveOperationException {
        for (int c : NO_CASES) {
            refused(4, UNKNOWN, "cradle", c, 1, 1);
            refused(4, UNKNOWN, "cradle", c, 8, 1);
            refused(4, UNKNOWN, "cradle", c, 1, 9);
            refused(4, UNKNOWN, "cradle", c, 1, -1);
        }
        int[][] outside = {{-1, 1}, {8, 1}, {0, 9}, {7, 9}, {LEAST, 0}, {MOST, 0}, {0, MOST}, {-1, -1}, {8, -1}, {8, LEAST}};
        for (int[] given : outside) {
            refused(4, OUTSIDE, "cradle", VANES, given[0], given[1]);
        }
        refused(4, SIZE, "cradle", VANES, 0, -1);
        refused(4, SIZE, "cradle", EMPTY, 7, -1);
        refused(4, SIZE, "cradle", VANES, 1, LEAST);
    }

    /** "UNKNOWN; OUTSIDE; ROOM: there were 60." */
    private static void parts() throws ReflectiveOperationException {
        for (int c : NO_CASES) {
            refused(5, UNKNOWN, "part", c, 0);
            refused(5, UNKNOWN, "part", c, 7);
            refusedIfFull(5, UNKNOWN, "part", c, 0);
        }
        int[] noKinds = {-1, 7, 8, LEAST, MOST};
        for (int kind : noKinds) {
            refused(5, OUTSIDE, "part", PART, kind);
            refusedIfFull(5, OUTSIDE, "part", 0, kind);
        }
        for (int kind = 0; kind < 7; kind++) {
            refusedIfFull(5, ROOM, "part", 0, kind);
            refusedIfFull(5, ROOM, "part", 23, kind);
        }
    }

    /** Calls that nothing but "UNKNOWN" refuses. */
    private static void casesAlone() throws ReflectiveOperationException {
        for (int c : NO_CASES) {
            refused(6, UNKNOWN, "set", c, 0);
            refused(6, UNKNOWN, "set", 0, c);
            refused(6, UNKNOWN, "set", c, c);
            refused(6, UNKNOWN, "set", EMPTY, c);
            refused(7, UNKNOWN, "clear", c);
            refused(8, UNKNOWN, "holds", c);
            refused(18, UNKNOWN, "alike", c, 0);
            refused(18, UNKNOWN, "alike", 0, c);
            refused(18, UNKNOWN, "alike", c, c);
        }
    }

    /** "UNKNOWN; OUTSIDE; CAST, NOTHING, INDEX." */
    private static void items() throws ReflectiveOperationException {
        int[] lengths = {3, 2, 2, 4, 2, 3, 3, 2};
        for (int c : NO_CASES) {
            refusedItem(UNKNOWN, c, 0, 0);
            refusedItem(UNKNOWN, c, 8, 0);
            refusedItem(UNKNOWN, c, 0, -1);
        }
        int[] noLanes = {-1, 8, 9, 10, LEAST, MOST};
        for (int lane : noLanes) {
            refusedItem(OUTSIDE, 0, lane, 0);
            refusedItem(OUTSIDE, 0, lane, -1);
            refusedItem(OUTSIDE, EMPTY, lane, 0);
            refusedItem(OUTSIDE, GRID, lane, 0);
        }
        for (int lane = 0; lane < 8; lane++) {
            for (int c = 0; c < 16; c++) {
                if (c != lane && (c != 11 || lane != 3)) {
                    refusedItem(CAST, c, lane, 0);
                    refusedItem(CAST, c, lane, -1);
                }
            }
            refusedItem(NOTHING, EMPTY, lane, 0);
            refusedItem(NOTHING, EMPTY, lane, -1);
            int[] noItems = {-1, lengths[lane], LEAST, MOST};
            for (int i : noItems) {
                refusedItem(INDEX, lane, lane, i);
            }
        }
        refusedItem(INDEX, 23, 3, 30);
    }

    private static void refusedItem(int code, int c, int lane, int i) throws ReflectiveOperationException {
        refused(9, code, "put", c, lane, i, 3L);
        refused(10, code, "get", c, lane, i);
    }

    /** "UNKNOWN; CAST, NOTHING (EMPTY), INDEX (i), NOTHING (missing), INDEX (j)." */
    private static void itemsOfGrids() throws ReflectiveOperationException {
        for (int c : NO_CASES) {
            refusedItemOfGrid(UNKNOWN, c, 0, 0);
            refusedItemOfGrid(UNKNOWN, c, -1, -1);
        }
        for (int c = 0; c < 24; c++) {
            if (c != GRID && (c < 16 || c == 23)) {
                refusedItemOfGrid(CAST, c, 0, 0);
                refusedItemOfGrid(CAST, c, -1, -1);
            }
        }
        refusedItemOfGrid(NOTHING, EMPTY, 0, 0);
        refusedItemOfGrid(NOTHING, EMPTY, -1, 0);
        refusedItemOfGrid(NOTHING, EMPTY, 0, -1);
        int[] noRows = {-1, 3, LEAST, MOST};
        for (int i : noRows) {
            refusedItemOfGrid(INDEX, GRID, i, 0);
            refusedItemOfGrid(INDEX, GRID, i, -1);
        }
        int[] anyItem = {0, -1, 2, LEAST, MOST};
        for (int j : anyItem) {
            refusedItemOfGrid(NOTHING, GRID, 2, j);
        }
        int[][] noItems = {{0, -1}, {0, 2}, {0, LEAST}, {0, MOST}, {1, -1}, {1, 4}};
        for (int[] at : noItems) {
            refusedItemOfGrid(INDEX, GRID, at[0], at[1]);
        }
    }

    private static void refusedItemOfGrid(int code, int c, int i, int j) throws ReflectiveOperationException {
        refused(11, code, "putAt", c, i, j, 7);
        refused(12, code, "getAt", c, i, j);
    }

    /** "UNKNOWN; CAST (c), CAST (d), NOTHING, INDEX." */
    private static void links() throws ReflectiveOperationException {
        for (int c : NO_CASES) {
            refused(13, UNKNOWN, "link", c, 0, 3);
            refused(13, UNKNOWN, "link", GRID, 0, c);
            refused(13, UNKNOWN, "link", c, -1, 4);
            refused(13, UNKNOWN, "link", 4, -1, c);
            refused(13, UNKNOWN, "link", EMPTY, 0, c);
        }
        int[] noGrids = {0, 3, 7, 9, 10, 12};
        for (int c : noGrids) {
            refused(13, CAST, "link", c, 0, 3);
            refused(13, CAST, "link", c, -1, 3);
            refused(13, CAST, "link", c, 0, EMPTY);
            refused(13, CAST, "link", c, 0, 4);
        }
        int[] noRowsOfInts = {0, 1, 2, 4, 5, 6, 7, 8, 9, 10};
        for (int d : noRowsOfInts) {
            refused(13, CAST, "link", GRID, 0, d);
            refused(13, CAST, "link", GRID, -1, d);
            refused(13, CAST, "link", EMPTY, 0, d);
        }
        refused(13, NOTHING, "link", EMPTY, 0, 3);
        refused(13, NOTHING, "link", EMPTY, -1, 3);
        refused(13, NOTHING, "link", EMPTY, 0, EMPTY);
        int[] noRows = {-1, 3, LEAST, MOST};
        for (int i : noRows) {
            refused(13, INDEX, "link", GRID, i, 3);
            refused(13, INDEX, "link", GRID, i, EMPTY);
        }
    }

    /** "UNKNOWN; CAST (c), CAST (d), NOTHING, INDEX, STORE: not OF its KIND." */
    private static void lays() throws ReflectiveOperationException {
        for (int c : NO_CASES) {
            refused(14, UNKNOWN, "lay", c, 0, PART);
            refused(14, UNKNOWN, "lay", VANES, 0, c);
            refused(14, UNKNOWN, "lay", c, -1, 4);
            refused(14, UNKNOWN, "lay", 4, -1, c);
        }
        int[] noCradles = {0, 3, 7, 8, 10};
        for (int c : noCradles) {
            refused(14, CAST, "lay", c, 0, PART);
            refused(14, CAST, "lay", c, -1, PART);
            refused(14, CAST, "lay", c, 0, EMPTY);
        }
        int[] noParts = {0, 1, 2, 3, 4, 5, 6, 7, 8, 9};
        for (int d : noParts) {
            refused(14, CAST, "lay", VANES, 0, d);
            refused(14, CAST, "lay", VANES, -1, d);
            refused(14, CAST, "lay", EMPTY, 0, d);
        }
        refused(14, NOTHING, "lay", EMPTY, 0, PART);
        refused(14, NOTHING, "lay", EMPTY, -1, EMPTY);
        int[] noPlaces = {-1, 3, LEAST, MOST};
        for (int i : noPlaces) {
            refused(14, INDEX, "lay", VANES, i, PART);
            refused(14, INDEX, "lay", VANES, i, EMPTY);
        }
        for (int i = 0; i < 3; i++) {
            refused(14, STORE, "lay", VANES, i, PART);
            refused(14, STORE, "lay", VANES, i, 15);
        }
        refused(14, STORE, "lay", SENSORS, 0, PART);
    }

    /** "UNKNOWN; OUTSIDE; CAST (c), NOTHING, INDEX, CAST." */
    private static void lifts() throws ReflectiveOperationException {
        for (int c : NO_CASES) {
            refused(15, UNKNOWN, "lift", c, 0, 1, EMPTY);
            refused(15, UNKNOWN, "lift", VANES, 0, 1, c);
            refused(15, UNKNOWN, "lift", c, -1, 8, EMPTY);
            refused(15, UNKNOWN, "lift", VANES, 0, 8, c);
        }
        int[] noKinds = {-1, 8, LEAST, MOST};
        for (int kind : noKinds) {
            refused(15, OUTSIDE, "lift", VANES, 0, kind, EMPTY);
            refused(15, OUTSIDE, "lift", 0, 0, kind, EMPTY);
            refused(15, OUTSIDE, "lift", EMPTY, 0, kind, 0);
            refused(15, OUTSIDE, "lift", VANES, -1, kind, 0);
            refused(15, OUTSIDE, "lift", VANES, 1, kind, 0);
        }
        int[] noCradles = {0, 3, 7, 8, 10};
        for (int c : noCradles) {
            refused(15, CAST, "lift", c, 0, 7, EMPTY);
            refused(15, CAST, "lift", c, -1, 7, 0);
        }
        refused(15, NOTHING, "lift", EMPTY, 0, 7, 0);
        refused(15, NOTHING, "lift", EMPTY, -1, 0, EMPTY);
        int[] noPlaces = {-1, 3, LEAST, MOST};
        for (int i : noPlaces) {
            refused(15, INDEX, "lift", VANES, i, 1, 0);
            refused(15, INDEX, "lift", VANES, i, 5, EMPTY);
        }
        int[][] not = {{VANES, 0, 0}, {VANES, 0, 2}, {VANES, 0, 3}, {VANES, 0, 6}, {VANES, 2, 0}, {VANES, 2, 5}, {SENSORS, 0, 1}};
        for (int[] one : not) {
            refused(15, CAST, "lift", one[0], one[1], one[2], 0);
            refused(15, CAST, "lift", one[0], one[1], one[2], EMPTY);
        }
    }

    /** "UNKNOWN; NOTHING: one is EMPTY; STORE: ..; INDEX: i, j, n below 0, not so many". */
    private static void copies() throws ReflectiveOperationException {
        for (int c : NO_CASES) {
            refused(16, UNKNOWN, "copy", c, 0, 3, 0, 1);
            refused(16, UNKNOWN, "copy", 3, 0, c, 0, 1);
            refused(16, UNKNOWN, "copy", c, -1, EMPTY, 0, 1);
            refused(16, UNKNOWN, "copy", EMPTY, 0, c, 0, -1);
        }
        for (int c = 0; c < 11; c++) {
            refused(16, NOTHING, "copy", c, 0, EMPTY, 0, 1);
            refused(16, NOTHING, "copy", EMPTY, 0, c, 0, 1);
            refused(16, NOTHING, "copy", c, -1, EMPTY, 0, 1);
            refused(16, NOTHING, "copy", EMPTY, 0, c, 0, -1);
        }
        refused(16, NOTHING, "copy", EMPTY, 0, EMPTY, 0, 0);
        refused(16, NOTHING, "copy", EMPTY, 0, 21, 0, -1);
        for (int c = 0; c < 11; c++) {
            for (int d = 0; d < 11; d++) {
                boolean unlike = c != d && (c < 8 || d < 8) || c == PART || d == PART;
                if (unlike) {
                    refused(16, STORE, "copy", c, 0, d, 0, 1);
                    refused(16, STORE, "copy", c, 0, d, 0, 0);
                    refused(16, STORE, "copy", c, -1, d, 0, 0);
                    refused(16, STORE, "copy", c, 0, d, -1, 0);
                    refused(16, STORE, "copy", c, 0, d, 0, -1);
                    refused(16, STORE, "copy", c, 0, d, 0, 31);
                }
            }
        }
        copiesNotSoMany();
        refused(16, STORE, "copy", GRID, 0, VANES, 0, 1);
        refused(16, STORE, "copy", VANES, 0, GRID, 0, 3);
        refused(16, STORE, "copy", SENSORS, 0, VANES, 0, 2);
        refused(16, STORE, "copy", SENSORS, 0, VANES, 1, 1);
    }

    private static void copiesNotSoMany() throws ReflectiveOperationException {
        int[][] spans = {{-1, 0, 1}, {0, -1, 1}, {0, 0, -1}, {-1, 0, 0}, {0, -1, 0}, {1, 1, -1}, {LEAST, 0, 1}, {0, LEAST, 1},
            {0, 0, LEAST}, {MOST, 0, 1}, {0, MOST, 1}, {0, 0, MOST}, {1, 0, MOST}, {0, 1, MOST}, {MOST, MOST, MOST}};
        for (int[] span : spans) {
            refused(16, INDEX, "copy", 3, span[0], 23, span[1], span[2]);
            refused(16, INDEX, "copy", 23, span[0], 3, span[1], span[2]);
            refused(16, INDEX, "copy", 3, span[0], 3, span[1], span[2]);
            refused(16, INDEX, "copy", GRID, span[0], GRID, span[1], span[2]);
            refused(16, INDEX, "copy", VANES, span[0], SENSORS, span[1], span[2]);
            refused(16, INDEX, "copy", GRID, span[0], SENSORS, span[1], span[2]);
        }
        // the ROW in CASE 3 has 4 items, the one in CASE 23 30; the CRADLES have 3 and 2 places
        int[][] ofRows = {{3, 0, 23, 0, 5}, {23, 0, 3, 0, 5}, {3, 4, 23, 0, 1}, {23, 0, 3, 4, 1}, {3, 5, 23, 0, 0}, {23, 0, 3, 5, 0},
            {3, 2, 23, 0, 3}, {23, 0, 3, 2, 3}, {23, 27, 3, 0, 4}, {3, 0, 23, 27, 4}, {VANES, 0, SENSORS, 0, 3},
            {SENSORS, 0, VANES, 0, 3}, {VANES, 4, SENSORS, 0, 0}, {VANES, 0, SENSORS, 3, 0}, {VANES, 2, SENSORS, 0, 2},
            {GRID, 2, GRID, 0, 2}, {GRID, 0, GRID, 2, 2}, {GRID, 4, GRID, 0, 0}, {GRID, 0, GRID, 4, 0}, {SENSORS, 0, VANES, 2, 2}};
        for (int[] given : ofRows) {
            refused(16, INDEX, "copy", given[0], given[1], given[2], given[3], given[4]);
        }
    }

    /** "UNKNOWN; OUTSIDE; CAST, NOTHING." */
    private static void lengths() throws ReflectiveOperationException {
        for (int c : NO_CASES) {
            refused(17, UNKNOWN, "length", c, 0);
            refused(17, UNKNOWN, "length", c, 10);
        }
        int[] outside = {-1, 10, LEAST, MOST};
        for (int as : outside) {
            refused(17, OUTSIDE, "length", 0, as);
            refused(17, OUTSIDE, "length", PART, as);
            refused(17, OUTSIDE, "length", EMPTY, as);
        }
        for (int as = 0; as < 10; as++) {
            for (int c = 0; c < 11; c++) {
                if (c != as) {
                    refused(17, CAST, "length", c, as);
                }
            }
            refused(17, NOTHING, "length", EMPTY, as);
        }
    }

    /** "(the LOAD is looked at with each MEMBER). 0 if it is refused (why()): UNKNOWN; OUTSIDE; CAST, NOTHING, ZERO." */
    private static void asks() throws ReflectiveOperationException {
        for (int c : NO_CASES) {
            refused(19, UNKNOWN, "ask", c, 0, 0);
            refused(19, UNKNOWN, "ask", c, 3, 0);
            refused(19, UNKNOWN, "ask", c, 0, -1);
        }
        int[] noMembers = {-1, 3, LEAST, MOST};
        int[] noLoads = {-1, 10001, LEAST, MOST};
        int[] held = {PART, PITCH_0, 0, EMPTY};
        for (int c : held) {
            for (int member : noMembers) {
                refused(19, OUTSIDE, "ask", c, member, 0);
            }
            for (int load : noLoads) {
                refused(19, OUTSIDE, "ask", c, 0, load);
                refused(19, OUTSIDE, "ask", c, 1, load);
                refused(19, OUTSIDE, "ask", c, 2, load);
            }
        }
        for (int member = 0; member < 3; member++) {
            for (int c = 0; c < 10; c++) {
                refused(19, CAST, "ask", c, member, 0);
            }
            refused(19, NOTHING, "ask", EMPTY, member, 0);
            refused(19, NOTHING, "ask", EMPTY, member, 10000);
        }
    }

    /** "0 if it is refused: UNKNOWN; OUTSIDE; CAST, NOTHING." */
    private static void tells() throws ReflectiveOperationException {
        for (int c : NO_CASES) {
            refused(20, UNKNOWN, "told", c, 0);
            refused(20, UNKNOWN, "told", c, 3);
        }
        int[] outside = {-1, 3, LEAST, MOST};
        for (int what : outside) {
            refused(20, OUTSIDE, "told", PART, what);
            refused(20, OUTSIDE, "told", 0, what);
            refused(20, OUTSIDE, "told", EMPTY, what);
        }
        for (int what = 0; what < 3; what++) {
            for (int c = 0; c < 10; c++) {
                refused(20, CAST, "told", c, what);
            }
            refused(20, NOTHING, "told", EMPTY, what);
        }
    }

    /** "0 if it is refused: UNKNOWN; OUTSIDE; CAST, NOTHING, ZERO." */
    private static void seconds() throws ReflectiveOperationException {
        for (int c : NO_CASES) {
            refused(23, UNKNOWN, "seconds", c, 6, 0);
            refused(23, UNKNOWN, "seconds", c, 4, 0);
            refused(23, UNKNOWN, "seconds", c, 6, 6);
        }
        int[] noLanes = {-1, 0, 3, 4, 7, 8, LEAST, MOST};
        for (int lane : noLanes) {
            refused(23, OUTSIDE, "seconds", 6, lane, 0);
            refused(23, OUTSIDE, "seconds", EMPTY, lane, 0);
        }
        refused(23, OUTSIDE, "seconds", 4, 4, 0);
        refused(23, OUTSIDE, "seconds", 7, 7, 5);
        int[] outside = {-1, 6, LEAST, MOST};
        for (int what : outside) {
            refused(23, OUTSIDE, "seconds", 5, 5, what);
            refused(23, OUTSIDE, "seconds", 6, 6, what);
            refused(23, OUTSIDE, "seconds", 5, 6, what);
            refused(23, OUTSIDE, "seconds", EMPTY, 6, what);
        }
        for (int what = 0; what < 6; what++) {
            for (int c = 0; c < 11; c++) {
                if (c != 5) refused(23, CAST, "seconds", c, 5, what);
                if (c != 6) refused(23, CAST, "seconds", c, 6, what);
            }
            refused(23, NOTHING, "seconds", EMPTY, 5, what);
            refused(23, NOTHING, "seconds", EMPTY, 6, what);
        }
    }

    /** "UNKNOWN; OUTSIDE; CAST, NOTHING, INDEX (i, j)." */
    private static void tests() throws ReflectiveOperationException {
        for (int c : NO_CASES) {
            refused(24, UNKNOWN, "test", c, 6, 0, 0, 0);
            refused(24, UNKNOWN, "test", c, 4, 0, 0, 12);
        }
        int[] noLanes = {-1, 0, 4, 7, 8, LEAST, MOST};
        for (int lane : noLanes) {
            refused(24, OUTSIDE, "test", 6, lane, 0, 0, 0);
            refused(24, OUTSIDE, "test", EMPTY, lane, -1, 0, 0);
        }
        int[] noTests = {-1, 12, LEAST, MOST};
        for (int t : noTests) {
            refused(24, OUTSIDE, "test", 6, 6, 0, 0, t);
            refused(24, OUTSIDE, "test", 6, 5, 0, 0, t);
            refused(24, OUTSIDE, "test", EMPTY, 6, 0, 0, t);
            refused(24, OUTSIDE, "test", 6, 6, 3, 3, t);
        }
        for (int c = 0; c < 11; c++) {
            if (c != 5) refused(24, CAST, "test", c, 5, 0, 0, 0);
            if (c != 6) refused(24, CAST, "test", c, 6, -1, -1, 11);
        }
        refused(24, NOTHING, "test", EMPTY, 5, -1, 0, 0);
        refused(24, NOTHING, "test", EMPTY, 6, 0, 0, 11);
        int[] noItems = {-1, 3, LEAST, MOST};
        for (int lane = 5; lane < 7; lane++) {
            for (int i : noItems) {
                refused(24, INDEX, "test", lane, lane, i, 0, 0);
                refused(24, INDEX, "test", lane, lane, 0, i, 0);
                refused(24, INDEX, "test", lane, lane, i, i, 11);
            }
        }
    }

    /** "UNKNOWN: ..; OUTSIDE: the OP (ahead of all but the PLAN), a of 6 (1 to 8), b of 8 (0 .. 8); ROOM." */
    private static void steps() throws ReflectiveOperationException {
        for (int plan : NO_PLANS) {
            refused(25, UNKNOWN, "step", plan, 3, 0, 0, 0);
            refused(25, UNKNOWN, "step", plan, 14, 0, 0, 0);
            refused(25, UNKNOWN, "step", plan, 6, 9, 0, 0);
        }
        int[] noOps = {-1, 14, LEAST, MOST};
        for (int op : noOps) {
            refused(25, OUTSIDE, "step", 3, op, 0, 0, 0);
            refused(25, OUTSIDE, "step", 3, op, -1, -1, -1);
            refusedIfFull(25, OUTSIDE, "step", 0, op, 0, 0, 0);
        }
        for (int c : NO_CASES) {
            for (int op = 0; op <= 2; op++) {
                refused(25, UNKNOWN, "step", 3, op, c, 0, 0);
                refusedIfFull(25, UNKNOWN, "step", 0, op, c, 0, 0);
            }
        }
        for (int plan : NO_PLANS) {
            int[][] naming = {{7, plan, 0, 0}, {8, plan, 0, 0}, {8, 0, 0, plan}, {8, plan, 9, 0}, {8, 0, 9, plan}, {8, 0, -1, plan},
                {9, plan, 0, 0}, {9, 0, plan, 0}, {10, 0, plan, 0}};
            for (int[] step : naming) {
                refused(25, UNKNOWN, "step", 3, step[0], step[1], step[2], step[3]);
                refusedIfFull(25, UNKNOWN, "step", 0, step[0], step[1], step[2], step[3]);
            }
        }
        int[][] outside = {{6, 0, 0}, {6, 9, 0}, {6, -1, 0}, {6, LEAST, 0}, {6, MOST, 0}, {8, 0, -1}, {8, 0, 9}, {8, 0, LEAST},
            {8, 0, MOST}};
        for (int[] step : outside) {
            refused(25, OUTSIDE, "step", 3, step[0], step[1], step[2], 0);
            refusedIfFull(25, OUTSIDE, "step", 0, step[0], step[1], step[2], 0);
        }
        for (int op = 0; op < 14; op++) {
            refusedIfFull(25, ROOM, "step", 0, op, 1, 1, 1);
        }
    }

    /** "UNKNOWN: .. a turbine (10 .. 13), a SLOT (12, 13)": of as many turbines as there are. */
    private static void stepsOfOtherTurbines() throws ReflectiveOperationException {
        int[] noTurbines = {-1, 3, 5, 6, LEAST, MOST};
        for (int op = 10; op < 14; op++) {
            for (int t : noTurbines) {
                refused(25, UNKNOWN, "step", 3, op, t, 0, 0);
            }
            refusedIfFull(25, UNKNOWN, "step", 0, op, 2, 0, 0);
        }
        int[] noSlots = {-1, 5, LEAST, MOST};
        for (int op = 12; op < 14; op++) {
            for (int slot : noSlots) {
                refused(25, UNKNOWN, "step", 3, op, 0, slot, 0);
                refusedIfFull(25, UNKNOWN, "step", 0, op, 0, slot, 0);
            }
        }
    }

    /** Calls of acts that nothing but "UNKNOWN" or "OUTSIDE" refuses. */
    private static void plansAlone() throws ReflectiveOperationException {
        for (int plan : NO_PLANS) {
            refused(26, UNKNOWN, "drop", plan);
            refused(27, UNKNOWN, "act", plan);
        }
        int[] outside = {-1, 6, LEAST, MOST};
        for (int what : outside) {
            refused(28, OUTSIDE, "acted", what);
            refusedIfFull(28, OUTSIDE, "acted", what);
        }
    }

    /** "The PLACE of a turbine (-100 .. 100 each): 1. UNKNOWN; OUTSIDE." */
    private static void places() throws ReflectiveOperationException {
        int[] noTurbines = {-1, 3, 6, LEAST, MOST};
        for (int t : noTurbines) {
            refused(30, UNKNOWN, "place", t, 0, 0);
            refused(30, UNKNOWN, "place", t, 101, 0);
            refused(30, UNKNOWN, "place", t, 0, -101);
        }
        int[] tooFar = {-101, 101, LEAST, MOST};
        for (int far : tooFar) {
            for (int t = 0; t < 3; t++) {
                refused(30, OUTSIDE, "place", t, far, 5);
                refused(30, OUTSIDE, "place", t, -5, far);
                refused(30, OUTSIDE, "place", t, far, far);
            }
        }
    }

    /** "UNKNOWN (the SENSOR, too); OUTSIDE: a number that is not -1000.0 .. 1000.0." */
    private static void readings() throws ReflectiveOperationException {
        long tooMuch = Parks.bits(Math.nextUp(1000.0));
        int[] noTurbines = {-1, 3, 6, LEAST, MOST};
        for (int t : noTurbines) {
            refused(31, UNKNOWN, "read", t, 0, 0L);
            refused(31, UNKNOWN, "read", t, 0, tooMuch);
            refused(31, UNKNOWN, "read", t, 3, 0L);
        }
        int[] noSensors = {-1, 3, 4, LEAST, MOST};
        for (int sensor : noSensors) {
            refused(31, UNKNOWN, "read", 0, sensor, 0L);
            refused(31, UNKNOWN, "read", 0, sensor, tooMuch);
        }
        double[] outside = {Math.nextUp(1000.0), Math.nextDown(-1000.0), 1001.0, -1001.0, Double.MAX_VALUE, -Double.MAX_VALUE,
            Double.POSITIVE_INFINITY, Double.NEGATIVE_INFINITY};
        for (double reading : outside) {
            for (int s = 0; s < 3; s++) {
                refused(31, OUTSIDE, "read", 0, s, Parks.bits(reading));
                refused(31, OUTSIDE, "read", 1, s, Parks.bits(reading));
            }
            refused(31, OUTSIDE, "read", 2, 0, Parks.bits(reading));
        }
    }

    /** Promise 32: "OUTSIDE."; promise 33: "UNKNOWN; OUTSIDE: it is no number, or below 0.0." */
    private static void windsAndBounds() throws ReflectiveOperationException {
        int[] noDirections = {-1, 8, LEAST, MOST};
        for (int direction : noDirections) {
            refused(32, OUTSIDE, "wind", direction, true);
            refused(32, OUTSIDE, "wind", direction, false);
        }
        int[] noTurbines = {-1, 3, 6, LEAST, MOST};
        for (int t : noTurbines) {
            refused(33, UNKNOWN, "bound", t, 0L);
            refused(33, UNKNOWN, "bound", t, -1L);
        }
        long[] outside = {Parks.bits(Double.NaN), -1L, 0x7ff0000000000001L, 0xfff0000000000001L, Parks.bits(-Double.MIN_VALUE),
            Parks.bits(-1.0), Parks.bits(Double.NEGATIVE_INFINITY)};
        for (long bits : outside) {
            for (int t = 0; t < 3; t++) {
                refused(33, OUTSIDE, "bound", t, bits);
            }
        }
    }

    /** Promise 34: "So many STEPS (1 .. 40) .. OUTSIDE."; promise 35: "UNKNOWN; STATE: it is not FAILED." */
    private static void runsAndResets() throws ReflectiveOperationException {
        int[] outside = {0, 41, -1, LEAST, MOST};
        for (int n : outside) {
            refused(34, OUTSIDE, "run", n);
        }
        int[] noTurbines = {-1, 3, 6, LEAST, MOST};
        for (int t : noTurbines) {
            refused(35, UNKNOWN, "reset", t);
        }
        refused(35, STATE, "reset", 0);
        refused(35, STATE, "reset", 1);
        refusedIfFull(35, STATE, "reset", 0);
        refusedIfFull(35, UNKNOWN, "reset", 2);
    }

    /** Promise 36: "0 if it is refused: UNKNOWN; OUTSIDE."; promises 37 and 39: "OUTSIDE." */
    private static void looks() throws ReflectiveOperationException {
        int[] noTurbines = {-1, 3, 6, LEAST, MOST};
        for (int t : noTurbines) {
            refused(36, UNKNOWN, "of", t, 0);
            refused(36, UNKNOWN, "of", t, 13);
        }
        int[] noFigures = {-1, 13, LEAST, MOST};
        for (int what : noFigures) {
            refused(36, OUTSIDE, "of", 0, what);
            refused(36, OUTSIDE, "of", 2, what);
        }
        int[] outside = {-1, 4, LEAST, MOST};
        for (int what : outside) {
            refused(37, OUTSIDE, "finding", 0, what);
            refused(37, OUTSIDE, "finding", -1, what);
            refused(37, OUTSIDE, "finding", 40, what);
        }
        int[] noCounts = {-1, 6, LEAST, MOST};
        for (int what : noCounts) {
            refused(39, OUTSIDE, "count", what);
        }
    }

    /** Calls that tell something and calls for what is so already. */
    private static void looksChangeNothing() throws ReflectiveOperationException {
        harmless(6, "set", 3, 11);
        harmless(6, "set", EMPTY, 21);
        harmless(7, "clear", EMPTY);
        harmless(8, "holds", 3);
        harmless(8, "holds", EMPTY);
        harmless(10, "get", 6, 6, 0);
        harmless(12, "getAt", GRID, 1, 3);
        harmless(16, "copy", 3, 4, 23, 30, 0);
        harmless(16, "copy", VANES, 0, VANES, 0, 3);
        harmless(17, "length", 3, 3);
        harmless(18, "alike", 3, 23);
        harmless(18, "alike", GRID, VANES);
        for (int what = 0; what < 3; what++) {
            harmless(20, "told", PART, what);
        }
        harmless(21, "traced", 0);
        harmless(21, "traced", -1);
        for (int what = 0; what < 6; what++) {
            harmless(23, "seconds", 5, 5, what);
            harmless(23, "seconds", 6, 6, what);
            harmless(28, "acted", what);
            harmless(39, "count", what);
        }
        for (int t = 0; t < 12; t++) {
            harmless(24, "test", 6, 6, 0, 1, t);
        }
        harmless(26, "drop", 3);
        harmless(29, "said", 0);
        harmless(29, "said", -1);
        for (int what = 0; what < 13; what++) {
            harmless(36, "of", 1, what);
            harmless(36, "of", 2, what);
        }
        harmless(37, "finding", 0, 3);
        harmless(37, "finding", -1, 0);
        harmless(38, "why");
    }
}
