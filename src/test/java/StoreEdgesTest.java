/** Promises 1 to 18, and "1 THE STORE" in the terms: each sentence that names a boundary case, one method each. */
public final class StoreEdgesTest {
    private static final int NONE = WindPark.NONE, UNKNOWN = WindPark.UNKNOWN, ROOM = WindPark.ROOM;
    private static final int NOTHING = -11, INDEX = -12, CAST = -14, STORE = -15;
    private static final int MOST = Integer.MAX_VALUE, LEAST = Integer.MIN_VALUE;
    private static final int EMPTY = 20;

    public static void main(String[] args) {
        anotherNumberOfTurbinesIsTheNearest();
        casesAreEmptyAndThereAreNoPlans();
        objectsShareNothing();
        casesGoFrom0To23();
        rowsHaveUpTo30();
        whatIsNewIs0();
        gridsHaveUpTo8RowsOf12();
        gridsOfMissingRows();
        cradlesHaveUpTo8Places();
        aNewThingComesWhateverTheCaseHeld();
        kindsOfPartsGoFrom0To6();
        partsComeUpTo60();
        setTellsWhetherItWasSo();
        clearTellsWhetherItWas();
        holdsTellsTheForm();
        lowestBitsThatCount();
        bitsThatAreNoNumber();
        firstAndLastItems();
        itemsOfGridsAtTheirEdges();
        linkedRowIsTheSameOne();
        linkOfAnEmptyCaseIsMissing();
        laysOfWhatBelongs();
        layOfAnEmptyCaseIsMissing();
        liftStaysThereToo();
        liftOfMissingIsEmpty();
        copiesUpToTheEnds();
        copiesAsTheyWereBefore();
        copiedItemsAreTheSame();
        copiesItemByItem();
        copiesBetweenGridsAndCradles();
        lengthsFromNoneToMost();
        alikeIfOneAndTheSameOrEmpty();
        alikeRows();
        alikeGrids();
        alikeCradles();
        partsAreAlikeIfTheSame();
        Due.end("StoreEdgesTest");
    }

    /** "1 .. 6 turbines (another number as the nearest)". */
    private static void anotherNumberOfTurbinesIsTheNearest() {
        int[][] given = {{LEAST, 1}, {-1, 1}, {0, 1}, {1, 1}, {2, 2}, {3, 3}, {4, 4}, {5, 5}, {6, 6}, {7, 6}, {8, 6}, {MOST, 6}};
        for (int[] one : given) {
            WindPark park = new WindPark(one[0]);
            Due.is(1, "turbines of " + one[0], park.count(0), one[1]);
            Due.is(1, "the last one", park.reset(one[1] - 1), WindPark.STATE);
            Due.is(1, "none behind it", park.reset(one[1]), UNKNOWN);
        }
    }

    /** "EMPTY CASES, no PLANS." */
    private static void casesAreEmptyAndThereAreNoPlans() {
        WindPark park = new WindPark(1);
        for (int c = 0; c < 24; c++) {
            Due.is(1, "case " + c, park.holds(c), NONE);
        }
        for (int plan = 0; plan < 10; plan++) {
            Due.is(1, "plan " + plan + " acts nothing", park.act(plan), 0);
            Due.is(1, "no step began", park.acted(1), 0);
            Due.is(1, "plan " + plan, park.drop(plan), 0);
        }
        Due.is(1, "parts", park.count(1), 0);
        Due.is(1, "the first serial", park.part(0, 0), 0);
    }

    /** "A new object": what another one was told is not in it. */
    private static void objectsShareNothing() {
        WindPark one = Parks.rich();
        WindPark other = new WindPark(3);
        Due.is(1, "the one was changed", one.count(4), 1);
        for (int what = 1; what < 6; what++) {
            Due.is(1, "count(" + what + ") of the other", other.count(what), 0);
        }
        Due.is(1, "its act", other.acted(1), 0);
        Due.is(1, "its plans", other.drop(0), 0);
        Due.is(1, "its state", other.of(2, 0), 0);
    }

    /** "CASES 0 .. 23". */
    private static void casesGoFrom0To23() {
        int[] ends = {0, 23};
        for (int c : ends) {
            WindPark park = new WindPark(1);
            int other = 23 - c;
            Due.is(2, "row in " + c, park.row(c, 3, 2), 2);
            Due.is(8, "holds " + c, park.holds(c), 3);
            Due.is(9, "put in " + c, park.put(c, 3, 1, 8), 1);
            Due.is(10, "get from " + c, park.get(c, 3, 1), 8);
            Due.is(17, "length of " + c, park.length(c, 3), 2);
            Due.is(6, "set from " + c, park.set(c, other), 1);
            Due.is(18, "alike " + c, park.alike(c, other), 1);
            Due.is(16, "copy " + c, park.copy(c, 0, other, 0, 2), 2);
            Due.is(3, "grid in " + c, park.grid(c, 1, 1), 1);
            Due.is(11, "putAt in " + c, park.putAt(c, 0, 0, 3), 1);
            Due.is(12, "getAt from " + c, park.getAt(c, 0, 0), 3);
            Due.is(13, "link in " + c, park.link(c, 0, other), 1);
            Due.is(4, "cradle in " + c, park.cradle(c, 0, 1), 1);
            Due.is(5, "part in " + other, park.part(other, 0), 0);
            Due.is(14, "lay in " + c, park.lay(c, 0, other), 1);
            Due.is(15, "lift from " + c, park.lift(c, 0, 0, other), 1);
            Due.is(15, "lift to " + c, park.lift(c, 0, 0, c), 1);
            Due.is(19, "ask " + c, park.ask(c, 0, 0), 40);
            Due.is(20, "told of " + c, park.told(c, 1), 0);
            Due.is(20, "why", park.why(), 0);
            park.row(c, 6, 1);
            Due.is(23, "seconds of " + c, park.seconds(c, 6, 5), 1);
            Due.is(24, "test of " + c, park.test(c, 6, 0, 0, 4), 1);
            Due.is(7, "clear " + c, park.clear(c), 1);
            Due.is(39, "the other alone", park.count(2), 1);
        }
    }

    /** "A new ROW of n (30 at most)". */
    private static void rowsHaveUpTo30() {
        for (int lane = 0; lane < 8; lane++) {
            WindPark park = new WindPark(1);
            int[] lengths = {0, 1, 29, 30};
            for (int n : lengths) {
                Due.is(2, "row of " + n, park.row(5, lane, n), n);
                Due.is(2, "why", park.why(), 0);
                Due.is(2, "its form", park.holds(5), lane);
                Due.is(2, "its length", park.length(5, lane), n);
                Due.is(2, "the last item", park.put(5, lane, n - 1, 1), n == 0 ? INDEX : 1);
                Due.is(2, "none behind it", park.put(5, lane, n, 1), INDEX);
            }
            Due.is(2, "31", park.row(5, lane, 31), WindPark.OUTSIDE);
            Due.is(2, "below none", park.row(5, lane, -1), -13);
            Due.is(2, "the old one", park.get(5, lane, 29), 1);
        }
    }

    /** "What is in a new one is 0, false, missing." */
    private static void whatIsNewIs0() {
        WindPark park = new WindPark(1);
        for (int lane = 0; lane < 8; lane++) {
            park.row(lane, lane, 30);
            park.put(lane, lane, 29, 1);
            park.row(lane, lane, 30);
            for (int i = 0; i < 30; i += 29) {
                Due.is(2, "item " + i + " of lane " + lane, park.get(lane, lane, i), 0);
                Due.is(2, "why", park.why(), 0);
            }
        }
        park.grid(8, 8, 12);
        for (int i = 0; i < 8; i++) {
            for (int j = 0; j < 12; j++) {
                Due.is(3, "item " + j + " of row " + i, park.getAt(8, i, j), 0);
            }
        }
        Due.is(3, "why", park.why(), 0);
        park.cradle(9, 7, 8);
        for (int i = 0; i < 8; i++) {
            park.part(10, 0);
            Due.is(4, "place " + i, park.lift(9, i, 0, 10), 1);
            Due.is(4, "is missing", park.holds(10), NONE);
        }
    }

    /** "A new GRID of n (8 at most) ROWS of m (12 at most)". */
    private static void gridsHaveUpTo8RowsOf12() {
        WindPark park = new WindPark(1);
        int[][] sizes = {{0, 0}, {0, 12}, {1, 0}, {1, 1}, {8, 0}, {7, 11}, {8, 12}};
        for (int[] size : sizes) {
            int n = size[0];
            int m = size[1];
            Due.is(3, "grid " + n + " " + m, park.grid(4, n, m), n);
            Due.is(3, "why", park.why(), 0);
            Due.is(3, "its form", park.holds(4), 8);
            Due.is(3, "its length", park.length(4, 8), n);
            Due.is(3, "the last item", park.putAt(4, n - 1, m - 1, 5), n == 0 || m == 0 ? INDEX : 1);
            Due.is(3, "none behind it", park.putAt(4, n - 1, m, 5), INDEX);
            Due.is(3, "no row behind it", park.putAt(4, n, m - 1, 5), INDEX);
        }
        for (int i = 0; i < 7; i++) {
            Due.is(3, "each row is its own", park.getAt(4, i, 11), 0);
        }
        Due.is(3, "the last", park.getAt(4, 7, 11), 5);
    }

    /** "or (m = -1) of n missing ones". */
    private static void gridsOfMissingRows() {
        WindPark park = new WindPark(1);
        int[] lengths = {0, 1, 8};
        for (int n : lengths) {
            Due.is(3, "grid of missing ones", park.grid(4, n, -1), n);
            Due.is(3, "its length", park.length(4, 8), n);
            Due.is(3, "the first", park.putAt(4, 0, 0, 1), n == 0 ? INDEX : NOTHING);
            Due.is(3, "the last", park.putAt(4, n - 1, 0, 1), n == 0 ? INDEX : NOTHING);
            Due.is(3, "none behind it", park.putAt(4, n, 0, 1), INDEX);
        }
    }

    /** "A new CRADLE of n (8 at most) for a KIND 0 .. 7". */
    private static void cradlesHaveUpTo8Places() {
        int[] kinds = {0, 7};
        int[] lengths = {0, 1, 7, 8};
        for (int kind : kinds) {
            WindPark park = new WindPark(1);
            for (int n : lengths) {
                Due.is(4, "cradle of " + n, park.cradle(6, kind, n), n);
                Due.is(4, "why", park.why(), 0);
                Due.is(4, "its form", park.holds(6), 9);
                Due.is(4, "its length", park.length(6, 9), n);
                park.part(0, 0);
                Due.is(4, "the last place", park.lay(6, n - 1, 0), n == 0 ? INDEX : 1);
                Due.is(4, "none behind it", park.lay(6, n, 0), INDEX);
            }
        }
    }

    /** "in a CASE (whatever it held)". */
    private static void aNewThingComesWhateverTheCaseHeld() {
        for (int held = 0; held < 5; held++) {
            for (int made = 0; made < 4; made++) {
                WindPark park = new WindPark(1);
                make(park, held, 7);
                park.set(7, 8);
                int form = park.holds(8);
                make(park, made, 7);
                Due.is(2 + made, "made over " + held, park.why(), 0);
                int[] forms = {3, 8, 9, 10};
                Due.is(2 + made, "it is there", park.holds(7), forms[made]);
                Due.is(2 + made, "what the case held is another", park.alike(7, 8) == 1 ? 1 : 0, 0);
                Due.is(2 + made, "and as it was", park.holds(8), form);
            }
        }
    }

    private static void make(WindPark park, int which, int c) {
        switch (which) {
            case 0: park.row(c, 3, 2); break;
            case 1: park.grid(c, 2, 2); break;
            case 2: park.cradle(c, 1, 2); break;
            case 3: park.part(c, 1); break;
            default: park.clear(c);
        }
    }

    /** "A new PART of a KIND 0 .. 6: its SERIAL." */
    private static void kindsOfPartsGoFrom0To6() {
        WindPark park = new WindPark(1);
        for (int kind = 0; kind < 7; kind++) {
            Due.is(5, "part of kind " + kind, park.part(kind, kind), kind);
            Due.is(5, "why", park.why(), 0);
            Due.is(5, "its form", park.holds(kind), 10);
            Due.is(5, "its kind", park.told(kind, 0), kind);
            Due.is(5, "its serial", park.told(kind, 1), kind);
            Due.is(5, "its wear", park.told(kind, 2), 0);
        }
        Due.is(5, "kind 7 has none of its own", park.part(0, 7), WindPark.OUTSIDE);
        Due.is(5, "a refused one takes no serial", park.part(0, 6), 7);
    }

    /** "ROOM: there were 60.": those that are gone count, too. */
    private static void partsComeUpTo60() {
        WindPark park = new WindPark(1);
        for (int serial = 0; serial < 60; serial++) {
            Due.is(5, "part " + serial, park.part(2, 6), serial);
            park.clear(serial == 59 ? 3 : 2);
        }
        Due.is(5, "the last is there", park.told(2, 1), 59);
        Due.is(39, "60 came", park.count(1), 60);
        Due.is(5, "the 61st", park.part(2, 0), ROOM);
        Due.is(5, "nor in an empty case", park.part(3, 0), ROOM);
        Due.is(5, "the last is still there", park.told(2, 1), 59);
        Due.is(5, "and the case is empty", park.holds(3), NONE);
        park.clear(2);
        Due.is(5, "no room comes back", park.part(2, 0), ROOM);
        Due.is(39, "60 came", park.count(1), 60);
    }

    /** "CASE d holds what CASE c holds, or is EMPTY: 1; 0: it was so." */
    private static void setTellsWhetherItWasSo() {
        WindPark park = new WindPark(1);
        Due.is(6, "both empty", park.set(4, 5), 0);
        Due.is(6, "an empty one itself", park.set(4, 4), 0);
        park.row(4, 3, 1);
        park.row(5, 3, 1);
        Due.is(6, "one alike is another", park.set(4, 5), 1);
        Due.is(6, "now the same", park.alike(4, 5), 1);
        Due.is(6, "it was so", park.set(4, 5), 0);
        Due.is(6, "the other way", park.set(5, 4), 0);
        Due.is(6, "itself", park.set(4, 4), 0);
        Due.is(6, "to an empty one", park.set(4, 6), 1);
        Due.is(6, "three hold it", park.put(6, 3, 0, 9), 1);
        Due.is(6, "the first", park.get(4, 3, 0), 9);
        Due.is(6, "the second", park.get(5, 3, 0), 9);
        Due.is(6, "from an empty one", park.set(EMPTY, 4), 1);
        Due.is(6, "it is empty", park.holds(4), NONE);
        Due.is(6, "the others are not", park.holds(5) + park.holds(6), 6);
        Due.is(6, "it was empty", park.set(EMPTY, 4), 0);
        Due.is(6, "c is as it was", park.holds(EMPTY), NONE);
    }

    /** "A CASE is EMPTY: 1; 0: it was." */
    private static void clearTellsWhetherItWas() {
        WindPark park = new WindPark(1);
        for (int c = 0; c < 24; c++) {
            Due.is(7, "it was", park.clear(c), 0);
        }
        for (int which = 0; which < 4; which++) {
            make(park, which, 3);
            park.set(3, 4);
            Due.is(7, "it is", park.clear(3), 1);
            Due.is(7, "empty", park.holds(3), NONE);
            Due.is(7, "another that holds it", park.alike(4, 3), 0);
            Due.is(7, "it was", park.clear(3), 0);
        }
    }

    /** "0 .. 7 a ROW of that LANE, 8 a GRID, 9 a CRADLE, 10 a PART; NONE." */
    private static void holdsTellsTheForm() {
        WindPark park = new WindPark(1);
        for (int lane = 0; lane < 8; lane++) {
            park.row(1, lane, 0);
            Due.is(8, "lane " + lane, park.holds(1), lane);
        }
        park.grid(1, 0, -1);
        Due.is(8, "grid", park.holds(1), 8);
        for (int kind = 0; kind < 8; kind++) {
            park.cradle(1, kind, 0);
            Due.is(8, "cradle", park.holds(1), 9);
        }
        for (int kind = 0; kind < 7; kind++) {
            park.part(1, kind);
            Due.is(8, "part", park.holds(1), 10);
        }
        Due.is(8, "empty", park.holds(2), NONE);
        Due.is(8, "that is no refusal", park.why(), 0);
    }

    /** "BITS of an item .. of lanes 0 to 4 its value (of chars without sign) .. of those given the lowest that count". */
    private static void lowestBitsThatCount() {
        long[][] given = {
            {0, 127, 127}, {0, 128, -128}, {0, -128, -128}, {0, -129, 127}, {0, 255, -1}, {0, 256, 0}, {0, Long.MIN_VALUE, 0},
            {1, 32767, 32767}, {1, 32768, -32768}, {1, -32769, 32767}, {1, 65535, -1}, {1, 65536, 0}, {1, Long.MAX_VALUE, -1},
            {2, 32768, 32768}, {2, 65535, 65535}, {2, 65536, 0}, {2, -1, 65535}, {2, Long.MIN_VALUE, 0},
            {3, MOST, MOST}, {3, 1L + MOST, LEAST}, {3, -1L + LEAST, MOST}, {3, 1L << 32, 0}, {3, Long.MAX_VALUE, -1},
            {4, Long.MAX_VALUE, Long.MAX_VALUE}, {4, Long.MIN_VALUE, Long.MIN_VALUE}, {4, -1, -1},
            {5, 1, 1}, {5, 0x80000000L, LEAST}, {5, 0x7f800000L, 0x7f800000}, {5, 0xff800000L, -8388608}, {5, 1L << 32, 0},
            {5, 0x1234567800000001L, 1}, {5, 0x7f7fffffL, 0x7f7fffff}, {5, -1L << 31, LEAST},
            {6, 1, 1}, {6, Long.MIN_VALUE, Long.MIN_VALUE}, {6, 0x7ff0000000000000L, 0x7ff0000000000000L},
            {6, 0xfff0000000000000L, 0xfff0000000000000L}, {6, 0x7fefffffffffffffL, 0x7fefffffffffffffL},
            {7, 0, 0}, {7, 1, 1}, {7, 2, 0}, {7, 3, 1}, {7, -1, 1}, {7, -2, 0}, {7, Long.MAX_VALUE, 1}, {7, Long.MIN_VALUE, 0}};
        WindPark park = new WindPark(1);
        for (int lane = 0; lane < 8; lane++) {
            park.row(lane, lane, 3);
        }
        for (long[] one : given) {
            int lane = (int) one[0];
            Due.is(9, "put of lane " + lane, park.put(lane, lane, 1, one[1]), 1);
            Due.is(10, "get of " + one[1] + " of lane " + lane, park.get(lane, lane, 1), one[2]);
        }
        for (int lane = 0; lane < 8; lane++) {
            Due.is(9, "the items beside it", park.get(lane, lane, 0) | park.get(lane, lane, 2), 0);
        }
    }

    /** "of each that is no number 2143289344, 9221120237041090560". */
    private static void bitsThatAreNoNumber() {
        long[] floats = {0x7f800001L, 0x7fc00000L, 0x7fc00001L, 0x7fffffffL, 0xff800001L, 0xffc00000L, 0xffffffffL, -1L, 0x17f800001L};
        long[] doubles = {0x7ff0000000000001L, 0x7ff8000000000000L, 0x7ff8000000000001L, Long.MAX_VALUE, 0xfff0000000000001L,
            0xfff8000000000000L, -1L};
        WindPark park = new WindPark(1);
        park.row(5, 5, 1);
        park.row(6, 6, 1);
        for (long bits : floats) {
            park.put(5, 5, 0, bits);
            Due.is(10, "a float that is no number", park.get(5, 5, 0), 2143289344L);
        }
        for (long bits : doubles) {
            park.put(6, 6, 0, bits);
            Due.is(10, "a double that is no number", park.get(6, 6, 0), 9221120237041090560L);
        }
    }

    /** "Item i of what a CASE holds": from 0 on, INDEX at either end. */
    private static void firstAndLastItems() {
        WindPark park = new WindPark(1);
        for (int lane = 0; lane < 8; lane++) {
            park.row(3, lane, 30);
            Due.is(9, "the first", park.put(3, lane, 0, 1), 1);
            Due.is(9, "the last", park.put(3, lane, 29, 1), 1);
            Due.is(9, "behind it", park.put(3, lane, 30, 1), INDEX);
            Due.is(9, "ahead of all", park.put(3, lane, -1, 1), INDEX);
            Due.is(10, "the first", park.get(3, lane, 0), 1);
            Due.is(10, "the last", park.get(3, lane, 29), 1);
            Due.is(10, "why", park.why(), 0);
            Due.is(10, "behind it", park.get(3, lane, 30), 0);
            Due.is(10, "why", park.why(), INDEX);
            Due.is(10, "ahead of all", park.get(3, lane, -1), 0);
            Due.is(10, "why", park.why(), INDEX);
            for (int i = 1; i < 29; i++) {
                Due.is(9, "item " + i, park.get(3, lane, i), 0);
            }
        }
    }

    /** "Item j of ROW i of what is treated as a GRID becomes v: 1." */
    private static void itemsOfGridsAtTheirEdges() {
        WindPark park = new WindPark(1);
        park.grid(0, 8, 12);
        int[] values = {LEAST, -1, 0, 1, MOST};
        int[][] corners = {{0, 0}, {0, 11}, {7, 0}, {7, 11}};
        for (int[] at : corners) {
            for (int v : values) {
                Due.is(11, "putAt", park.putAt(0, at[0], at[1], v), 1);
                Due.is(12, "getAt", park.getAt(0, at[0], at[1]), v);
                Due.is(12, "why", park.why(), 0);
            }
        }
        int[][] beyond = {{0, 12}, {7, 12}, {7, -1}, {8, 0}, {8, 11}, {-1, 0}};
        for (int[] at : beyond) {
            Due.is(11, "beyond", park.putAt(0, at[0], at[1], 5), INDEX);
            Due.is(12, "beyond", park.getAt(0, at[0], at[1]), 0);
            Due.is(12, "why", park.why(), INDEX);
        }
        for (int i = 0; i < 8; i++) {
            for (int j = 0; j < 12; j++) {
                boolean corner = (i == 0 || i == 7) && (j == 0 || j == 11);
                Due.is(11, "item", park.getAt(0, i, j), corner ? MOST : 0);
            }
        }
    }

    /** "becomes what CASE d holds, treated as a ROW of ints .., the same one: 1." */
    private static void linkedRowIsTheSameOne() {
        WindPark park = new WindPark(1);
        park.grid(0, 8, 2);
        park.row(1, 3, 30);
        Due.is(13, "the first", park.link(0, 0, 1), 1);
        Due.is(13, "the last", park.link(0, 7, 1), 1);
        Due.is(13, "behind it", park.link(0, 8, 1), INDEX);
        Due.is(13, "item 29", park.putAt(0, 7, 29, -6), 1);
        Due.is(13, "of the row", park.get(1, 3, 29), -6);
        Due.is(13, "of the first", park.getAt(0, 0, 29), -6);
        park.put(1, 3, 0, 4);
        Due.is(13, "the other way", park.getAt(0, 7, 0), 4);
        Due.is(13, "no item 30", park.putAt(0, 7, 30, 1), INDEX);
        Due.is(13, "a row between is of 2", park.putAt(0, 3, 2, 1), INDEX);
        park.clear(1);
        Due.is(13, "it stays in the grid", park.getAt(0, 0, 29), -6);
        park.row(1, 3, 0);
        Due.is(13, "a row of none", park.link(0, 0, 1), 1);
        Due.is(13, "it has no items", park.putAt(0, 0, 0, 1), INDEX);
    }

    /** "(EMPTY: missing)". */
    private static void linkOfAnEmptyCaseIsMissing() {
        WindPark park = new WindPark(1);
        park.grid(0, 3, 2);
        park.putAt(0, 2, 1, 7);
        Due.is(13, "link of an empty case", park.link(0, 1, EMPTY), 1);
        Due.is(13, "why", park.why(), 0);
        Due.is(13, "missing", park.putAt(0, 1, 0, 1), NOTHING);
        Due.is(13, "and again", park.link(0, 1, EMPTY), 1);
        Due.is(13, "the row beside it", park.getAt(0, 2, 1), 7);
        park.row(1, 3, 1);
        Due.is(13, "no more missing", park.link(0, 1, 1), 1);
        Due.is(13, "it is there", park.putAt(0, 1, 0, 1), 1);
    }

    /** "STORE: not OF its KIND": a PART is OF its KIND and of those that it also is. */
    private static void laysOfWhatBelongs() {
        String[] kindsOf = {"07", "17", "127", "3", "34", "5", "56"};
        for (int kind = 0; kind < 7; kind++) {
            WindPark park = new WindPark(1);
            park.part(0, kind);
            for (int wanted = 0; wanted < 8; wanted++) {
                boolean of = kindsOf[kind].indexOf('0' + wanted) >= 0;
                park.cradle(1, wanted, 8);
                for (int i = 0; i < 8; i += 7) {
                    Due.is(14, "lay of kind " + kind + " for " + wanted, park.lay(1, i, 0), of ? 1 : STORE);
                    Due.is(14, "why", park.why(), of ? 0 : STORE);
                    Due.is(14, "lift", park.lift(1, i, wanted, 2), 1);
                    Due.is(14, "what lies there", park.alike(2, of ? 0 : EMPTY), 1);
                }
                Due.is(14, "no place 8", park.lay(1, 8, 0), INDEX);
                Due.is(14, "the case still holds it", park.holds(0), 10);
            }
        }
    }

    /** "(EMPTY: missing)": what is missing belongs in each CRADLE. */
    private static void layOfAnEmptyCaseIsMissing() {
        for (int kind = 0; kind < 8; kind++) {
            WindPark park = new WindPark(1);
            park.cradle(0, kind, 2);
            park.part(1, kind == 7 ? 2 : kind);
            park.lay(0, 0, 1);
            park.lay(0, 1, 1);
            Due.is(14, "lay of an empty case", park.lay(0, 1, EMPTY), 1);
            Due.is(14, "why", park.why(), 0);
            park.lift(0, 1, kind, 2);
            Due.is(14, "missing", park.holds(2), NONE);
            park.lift(0, 0, kind, 2);
            Due.is(14, "the other lies there", park.alike(1, 2), 1);
        }
    }

    /** "CASE d gets what lies at place i .. (it stays there, too ..): 1." */
    private static void liftStaysThereToo() {
        WindPark park = new WindPark(1);
        park.cradle(0, 7, 8);
        park.part(1, 2);
        park.lay(0, 0, 1);
        park.lay(0, 7, 1);
        int[] places = {0, 7};
        int[] kinds = {1, 2, 7};
        for (int i : places) {
            for (int kind : kinds) {
                park.row(2, 0, 1);
                Due.is(15, "lift as " + kind, park.lift(0, i, kind, 2), 1);
                Due.is(15, "the same part", park.alike(1, 2), 1);
            }
        }
        Due.is(15, "place 8", park.lift(0, 8, 2, 2), INDEX);
        Due.is(15, "place -1", park.lift(0, -1, 2, 2), INDEX);
        int[] not = {0, 3, 4, 5, 6};
        for (int kind : not) {
            park.clear(2);
            Due.is(15, "not as " + kind, park.lift(0, 7, kind, 2), CAST);
            Due.is(15, "the case is as it was", park.holds(2), NONE);
        }
        Due.is(15, "into the cradle's own case", park.lift(0, 0, 1, 0), 1);
        Due.is(15, "the same part", park.alike(0, 1), 1);
    }

    /** "(.. missing: EMPTY)": what is missing may be treated as any KIND. */
    private static void liftOfMissingIsEmpty() {
        WindPark park = new WindPark(1);
        park.cradle(0, 3, 1);
        for (int kind = 0; kind < 8; kind++) {
            park.row(2, 0, 1);
            Due.is(15, "lift of missing as " + kind, park.lift(0, 0, kind, 2), 1);
            Due.is(15, "why", park.why(), 0);
            Due.is(15, "the case is empty", park.holds(2), NONE);
            Due.is(15, "and again", park.lift(0, 0, kind, 2), 1);
        }
    }

    /** "n items from i on .. come .. from j on .. INDEX: i, j, n below 0, not so many". */
    private static void copiesUpToTheEnds() {
        for (int lane = 0; lane < 8; lane++) {
            WindPark park = new WindPark(1);
            park.row(0, lane, 30);
            park.row(1, lane, 2);
            park.put(0, lane, 28, 1);
            park.put(0, lane, 29, 1);
            Due.is(16, "the last two", park.copy(0, 28, 1, 0, 2), 2);
            Due.is(16, "came", park.get(1, lane, 0) + park.get(1, lane, 1), 2);
            Due.is(16, "one more", park.copy(0, 28, 1, 0, 3), INDEX);
            Due.is(16, "one on", park.copy(0, 29, 1, 0, 2), INDEX);
            Due.is(16, "the other one on", park.copy(0, 28, 1, 1, 2), INDEX);
            Due.is(16, "all", park.copy(0, 0, 0, 0, 30), 30);
            Due.is(16, "more than all", park.copy(0, 0, 0, 0, 31), INDEX);
            Due.is(16, "none behind the last", park.copy(0, 30, 1, 2, 0), 0);
            Due.is(16, "why", park.why(), 0);
            Due.is(16, "none still farther", park.copy(0, 31, 1, 2, 0), INDEX);
            Due.is(16, "nor there", park.copy(0, 30, 1, 3, 0), INDEX);
            Due.is(16, "fewer than none", park.copy(0, 1, 1, 1, -1), INDEX);
            park.row(2, lane, 0);
            Due.is(16, "none of none", park.copy(2, 0, 2, 0, 0), 0);
            Due.is(16, "one of none", park.copy(2, 0, 1, 0, 1), INDEX);
            Due.is(16, "one to none", park.copy(1, 0, 2, 0, 1), INDEX);
        }
    }

    /** "as they were before". */
    private static void copiesAsTheyWereBefore() {
        int[][] spans = {{0, 1, 4}, {1, 0, 4}, {0, 2, 3}, {2, 0, 3}, {0, 0, 5}, {4, 0, 1}, {3, 1, 2}};
        for (int[] span : spans) {
            WindPark park = new WindPark(1);
            park.row(0, 3, 5);
            park.grid(1, 5, 1);
            park.cradle(2, 0, 5);
            int[] due = {0, 1, 2, 3, 4};
            for (int i = 0; i < 5; i++) {
                park.put(0, 3, i, i);
                park.putAt(1, i, 0, i);
                park.part(3, 0);
                park.lay(2, i, 3);
            }
            System.arraycopy(due, span[0], due, span[1], span[2]);
            for (int c = 0; c < 3; c++) {
                Due.is(16, "copy within", park.copy(c, span[0], c, span[1], span[2]), span[2]);
            }
            for (int i = 0; i < 5; i++) {
                Due.is(16, "item " + i, park.get(0, 3, i), due[i]);
                Due.is(16, "row " + i, park.getAt(1, i, 0), due[i]);
                Due.is(16, "place " + i, Look.serialAt(park, 2, i), due[i]);
            }
        }
    }

    /** ROWS of a GRID and PARTS of a CRADLE come as the same ones, items of ROWS as BITS. */
    private static void copiedItemsAreTheSame() {
        WindPark park = new WindPark(1);
        park.grid(0, 2, 2);
        park.grid(1, 2, 2);
        Due.is(16, "rows of a grid", park.copy(0, 0, 1, 1, 1), 1);
        park.putAt(0, 0, 1, 6);
        Due.is(16, "the same row", park.getAt(1, 1, 1), 6);
        Due.is(16, "the row beside it", park.getAt(1, 0, 1), 0);
        park.cradle(2, 1, 1);
        park.cradle(3, 7, 1);
        park.part(4, 2);
        park.lay(2, 0, 4);
        Due.is(16, "parts of a cradle", park.copy(2, 0, 3, 0, 1), 1);
        park.lift(3, 0, 2, 5);
        Due.is(16, "the same part", park.alike(4, 5), 1);
        park.row(6, 3, 1);
        park.row(7, 3, 1);
        park.put(6, 3, 0, 8);
        Due.is(16, "items of a row", park.copy(6, 0, 7, 0, 1), 1);
        park.put(6, 3, 0, 9);
        Due.is(16, "are no more than their bits", park.get(7, 3, 0), 8);
    }

    /** "of CRADLES and GRIDS item by item, STORE at the first that does not belong (missing ones do): those ahead of it have come." */
    private static void copiesItemByItem() {
        for (int wrong = 0; wrong <= 4; wrong++) {
            WindPark park = new WindPark(1);
            park.cradle(0, 7, 5);
            park.cradle(1, 1, 5);
            for (int i = 0; i < 5; i++) {
                park.part(2, i == wrong ? 0 : 2);
                park.lay(0, i, i == 1 && wrong != 1 ? EMPTY : 2);
            }
            park.part(2, 1);
            for (int i = 0; i < 5; i++) {
                park.lay(1, i, 2);
            }
            Due.is(16, "cups at " + wrong, park.copy(0, 0, 1, 0, 5), STORE);
            Due.is(16, "why", park.why(), STORE);
            for (int i = 0; i < 5; i++) {
                long due = i >= wrong ? 5 : i == 1 ? NONE : i;
                Due.is(16, "place " + i + ", cups at " + wrong, Look.serialAt(park, 1, i), due);
            }
            Due.is(16, "those ahead of it alone", park.copy(0, 0, 1, 0, wrong), wrong);
            Due.is(16, "those behind it alone", park.copy(0, wrong + 1, 1, 0, 4 - wrong), 4 - wrong);
            Due.is(16, "the other way all belong", park.copy(1, 0, 0, 0, 5), 5);
        }
    }

    /** "(missing ones do)": of a GRID and a CRADLE nothing but what is missing belongs in the other. */
    private static void copiesBetweenGridsAndCradles() {
        WindPark park = new WindPark(1);
        park.grid(0, 3, -1);
        park.row(1, 3, 1);
        park.link(0, 2, 1);
        park.cradle(2, 5, 3);
        park.part(3, 5);
        for (int i = 0; i < 3; i++) {
            park.lay(2, i, 3);
        }
        Due.is(16, "a row does not belong", park.copy(0, 0, 2, 0, 3), STORE);
        Due.is(16, "two missing ones came", Look.serialAt(park, 2, 0) + Look.serialAt(park, 2, 1), 2 * NONE);
        Due.is(16, "the last is as it was", Look.serialAt(park, 2, 2), 0);
        Due.is(16, "a part does not belong", park.copy(2, 1, 0, 1, 2), STORE);
        Due.is(16, "the row is as it was", park.putAt(0, 2, 0, 1), 1);
        Due.is(16, "nor the part alone", park.copy(2, 2, 0, 2, 1), STORE);
        Due.is(16, "one that is missing does", park.copy(2, 0, 0, 2, 1), 1);
        Due.is(16, "it is missing", park.putAt(0, 2, 0, 1), NOTHING);
        Due.is(16, "none belong", park.copy(2, 2, 0, 2, 0), 0);
    }

    /** "How many items a ROW (LANE 0 .. 7), GRID (8), CRADLE (9) has". */
    private static void lengthsFromNoneToMost() {
        WindPark park = new WindPark(1);
        for (int as = 0; as < 10; as++) {
            int most = as < 8 ? 30 : 8;
            int[] lengths = {0, 1, most};
            for (int n : lengths) {
                if (as < 8) park.row(0, as, n);
                if (as == 8) park.grid(0, n, 3);
                if (as == 9) park.cradle(0, 2, n);
                Due.is(17, "length as " + as, park.length(0, as), n);
                Due.is(17, "why", park.why(), 0);
                Due.is(17, "as the next", park.length(0, as == 9 ? 8 : as + 1), CAST);
            }
        }
    }

    /** "Whether two CASES hold one and the same THING, or are both EMPTY: 1". */
    private static void alikeIfOneAndTheSameOrEmpty() {
        WindPark park = new WindPark(1);
        Due.is(18, "both empty", park.alike(3, 4), 1);
        Due.is(18, "an empty one itself", park.alike(3, 3), 1);
        for (int which = 0; which < 4; which++) {
            make(park, which, 3);
            Due.is(18, "one empty", park.alike(3, 4), 0);
            Due.is(18, "the other empty", park.alike(4, 3), 0);
            Due.is(18, "itself", park.alike(3, 3), 1);
            park.set(3, 5);
            Due.is(18, "the same", park.alike(3, 5), 1);
            Due.is(18, "why", park.why(), 0);
        }
    }

    /** "ROWS of a LANE with the same BITS". */
    private static void alikeRows() {
        for (int lane = 0; lane < 8; lane++) {
            WindPark park = new WindPark(1);
            park.row(0, lane, 0);
            park.row(1, lane, 0);
            Due.is(18, "of none", park.alike(0, 1), 2);
            park.row(1, lane, 1);
            Due.is(18, "of none and one", park.alike(0, 1), 0);
            park.row(0, lane, 30);
            park.row(1, lane, 30);
            Due.is(18, "of 30", park.alike(0, 1), 2);
            for (int i = 0; i < 30; i += 29) {
                park.put(0, lane, i, 1);
                Due.is(18, "another item " + i, park.alike(0, 1), 0);
                park.put(1, lane, i, 1);
                Due.is(18, "the same item " + i, park.alike(0, 1), 2);
            }
            park.row(1, lane, 29);
            park.row(0, lane, 30);
            Due.is(18, "of 30 and 29", park.alike(0, 1), 0);
            Due.is(18, "of 29 and 30", park.alike(1, 0), 0);
            for (int other = 0; other < 8; other++) {
                park.row(1, other, 30);
                Due.is(18, "lanes " + lane + ", " + other, park.alike(0, 1), other == lane ? 2 : 0);
            }
        }
        WindPark park = new WindPark(1);
        int[] lanes = {5, 6};
        for (int lane : lanes) {
            park.row(0, lane, 1);
            park.row(1, lane, 1);
            park.put(1, lane, 0, lane == 5 ? 1L << 31 : 1L << 63);
            Due.is(18, "0.0 and -0.0 have other bits", park.alike(0, 1), 0);
            park.put(0, lane, 0, -1L);
            park.put(1, lane, 0, lane == 5 ? 0x7f800001L : 0x7ff0000000000001L);
            Due.is(18, "those that are no number have the same", park.alike(0, 1), 2);
        }
    }

    /** "GRIDS whose ROWS are so, or missing alike". */
    private static void alikeGrids() {
        WindPark park = new WindPark(1);
        park.grid(0, 0, 3);
        park.grid(1, 0, -1);
        Due.is(18, "of none", park.alike(0, 1), 2);
        park.grid(0, 8, 12);
        park.grid(1, 8, 12);
        Due.is(18, "of 8", park.alike(0, 1), 2);
        park.putAt(0, 7, 11, 1);
        Due.is(18, "another item", park.alike(0, 1), 0);
        park.putAt(1, 7, 11, 1);
        Due.is(18, "the same items", park.alike(0, 1), 2);
        park.link(0, 0, EMPTY);
        Due.is(18, "one is missing", park.alike(0, 1), 0);
        Due.is(18, "the other way", park.alike(1, 0), 0);
        park.link(1, 0, EMPTY);
        Due.is(18, "missing alike", park.alike(0, 1), 2);
        park.row(2, 3, 12);
        park.link(0, 3, 2);
        park.link(1, 3, 2);
        Due.is(18, "one and the same row", park.alike(0, 1), 2);
        park.row(2, 3, 11);
        park.link(1, 3, 2);
        Due.is(18, "a shorter row", park.alike(0, 1), 0);
        park.grid(0, 7, -1);
        park.grid(1, 8, -1);
        Due.is(18, "of 7 and 8 missing ones", park.alike(0, 1), 0);
        Due.is(18, "of 8 and 7", park.alike(1, 0), 0);
        park.grid(0, 1, 2);
        park.row(1, 3, 2);
        Due.is(18, "a grid and a row", park.alike(0, 1), 0);
        park.grid(0, 2, -1);
        park.cradle(1, 0, 2);
        Due.is(18, "a grid and a cradle", park.alike(0, 1), 0);
    }

    /** "CRADLES for a KIND with the same PARTS". */
    private static void alikeCradles() {
        WindPark park = new WindPark(1);
        for (int kind = 0; kind < 8; kind++) {
            for (int other = 0; other < 8; other++) {
                park.cradle(0, kind, 1);
                park.cradle(1, other, 1);
                Due.is(18, "cradles for " + kind + ", " + other, park.alike(0, 1), kind == other ? 2 : 0);
            }
        }
        park.cradle(0, 1, 8);
        park.cradle(1, 1, 8);
        park.part(2, 2);
        park.part(3, 2);
        park.lay(0, 7, 2);
        Due.is(18, "one is missing", park.alike(0, 1), 0);
        park.lay(1, 7, 3);
        Due.is(18, "another part of that kind", park.alike(0, 1), 0);
        park.lay(1, 7, 2);
        Due.is(18, "the same part", park.alike(0, 1), 2);
        park.lay(1, 0, 2);
        Due.is(18, "one more", park.alike(1, 0), 0);
        park.cradle(1, 1, 7);
        park.cradle(0, 1, 8);
        Due.is(18, "of 8 and 7", park.alike(0, 1), 0);
        Due.is(18, "of 7 and 8", park.alike(1, 0), 0);
        park.cradle(0, 3, 0);
        park.cradle(1, 3, 0);
        Due.is(18, "of none", park.alike(0, 1), 2);
    }

    /** "else 0": two PARTS are never alike. */
    private static void partsAreAlikeIfTheSame() {
        WindPark park = new WindPark(1);
        for (int kind = 0; kind < 7; kind++) {
            park.part(0, kind);
            park.part(1, kind);
            Due.is(18, "two parts of kind " + kind, park.alike(0, 1), 0);
            park.set(0, 1);
            Due.is(18, "one part", park.alike(0, 1), 1);
        }
    }
}
