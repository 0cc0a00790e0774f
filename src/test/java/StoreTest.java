/** Promises 1 to 18: a new object and the store. */
public final class StoreTest {
    private static final int NOTHING = -11, INDEX = -12, SIZE = -13, CAST = -14, STORE = -15;
    private static final int GREAT = Integer.MAX_VALUE, LEAST = Integer.MIN_VALUE;

    public static void main(String[] args) {
        newObject();
        rows();
        grids();
        cradlesAndParts();
        casesAndWhatTheyHold();
        itemsOfEachLane();
        itemsRefused();
        itemsOfGrids();
        linkedRows();
        laidAndLifted();
        copiedRows();
        copiedCradlesAndGrids();
        lengths();
        alikes();
        Due.end("StoreTest");
    }

    private static void newObject() {
        int[] given = {LEAST, -1, 0, 1, 2, 5, 6, 7, GREAT};
        int[] due = {1, 1, 1, 1, 2, 5, 6, 6, 6};
        for (int i = 0; i < given.length; i++) {
            WindPark park = new WindPark(given[i]);
            Due.is(1, "why() of a new one", park.why(), 0);
            Due.is(1, "count(0) of " + given[i], park.count(0), due[i]);
            Due.is(1, "count(2)", park.count(2), 0);
            for (int c = 0; c < 24; c++) {
                Due.is(1, "holds(" + c + ")", park.holds(c), WindPark.NONE);
            }
            for (int plan = 0; plan < 10; plan++) {
                Due.is(1, "drop(" + plan + ")", park.drop(plan), 0);
            }
        }
    }

    private static void rows() {
        WindPark park = new WindPark(1);
        for (int lane = 0; lane < 8; lane++) {
            Due.is(2, "row of 30", park.row(lane, lane, 30), 30);
            Due.is(2, "its form", park.holds(lane), lane);
            Due.is(2, "its length", park.length(lane, lane), 30);
            Due.is(2, "its last item", park.get(lane, lane, 29), 0);
            Due.is(2, "was refused", park.why(), 0);
        }
        Due.is(2, "row of none", park.row(23, 4, 0), 0);
        Due.is(2, "its length", park.length(23, 4), 0);
        Due.is(2, "case 24", park.row(24, 9, 99), WindPark.UNKNOWN);
        Due.is(2, "case -1", park.row(-1, 0, -1), WindPark.UNKNOWN);
        Due.is(2, "lane 8", park.row(23, 8, -1), WindPark.OUTSIDE);
        Due.is(2, "lane -1", park.row(23, -1, 1), WindPark.OUTSIDE);
        Due.is(2, "31 items", park.row(23, 0, 31), WindPark.OUTSIDE);
        Due.is(2, "-1 items", park.row(23, 0, -1), SIZE);
        Due.is(2, "least items", park.row(23, 0, LEAST), SIZE);
        Due.is(2, "still the old row", park.length(23, 4), 0);
        Due.is(2, "a new row in its stead", park.row(23, 0, 3), 3);
        Due.is(2, "its form", park.holds(23), 0);
    }

    private static void grids() {
        WindPark park = new WindPark(1);
        Due.is(3, "grid 8 12", park.grid(0, 8, 12), 8);
        Due.is(3, "its length", park.length(0, 8), 8);
        Due.is(3, "its last item", park.putAt(0, 7, 11, 5), 1);
        Due.is(3, "beyond it", park.putAt(0, 7, 12, 5), INDEX);
        Due.is(3, "another row's item", park.getAt(0, 6, 11), 0);
        Due.is(3, "grid of missing rows", park.grid(1, 3, -1), 3);
        Due.is(3, "missing", park.putAt(1, 2, 0, 1), NOTHING);
        Due.is(3, "grid of empty rows", park.grid(2, 3, 0), 3);
        Due.is(3, "no item", park.putAt(2, 2, 0, 1), INDEX);
        Due.is(3, "grid 0 -1", park.grid(3, 0, -1), 0);
        Due.is(3, "case", park.grid(24, 9, 13), WindPark.UNKNOWN);
        Due.is(3, "n 9", park.grid(0, 9, -2), WindPark.OUTSIDE);
        Due.is(3, "m 13", park.grid(0, -1, 13), WindPark.OUTSIDE);
        Due.is(3, "n -1", park.grid(0, -1, 1), SIZE);
        Due.is(3, "m -2", park.grid(0, 1, -2), SIZE);
        Due.is(3, "still the old one", park.getAt(0, 7, 11), 5);
    }

    private static void cradlesAndParts() {
        WindPark park = new WindPark(1);
        for (int kind = 0; kind < 8; kind++) {
            Due.is(4, "cradle", park.cradle(kind, kind, 8), 8);
            Due.is(4, "its form", park.holds(kind), 9);
            Due.is(4, "its length", park.length(kind, 9), 8);
            Due.is(4, "lift of missing", park.lift(kind, 7, kind, 20), 1);
            Due.is(4, "missing", park.holds(20), WindPark.NONE);
        }
        Due.is(4, "case", park.cradle(-1, 8, 9), WindPark.UNKNOWN);
        Due.is(4, "kind 8", park.cradle(0, 8, -1), WindPark.OUTSIDE);
        Due.is(4, "kind -1", park.cradle(0, -1, 1), WindPark.OUTSIDE);
        Due.is(4, "9 places", park.cradle(0, 0, 9), WindPark.OUTSIDE);
        Due.is(4, "-1 places", park.cradle(0, 0, -1), SIZE);
        Due.is(4, "no places", park.cradle(0, 0, 0), 0);

        Due.is(5, "case", park.part(24, 7), WindPark.UNKNOWN);
        Due.is(5, "kind 7", park.part(0, 7), WindPark.OUTSIDE);
        Due.is(5, "kind -1", park.part(0, -1), WindPark.OUTSIDE);
        for (int serial = 0; serial < 60; serial++) {
            Due.is(5, "part", park.part(10, serial % 7), serial);
            Due.is(5, "its kind", park.told(10, 0), serial % 7);
            Due.is(5, "its serial", park.told(10, 1), serial);
            Due.is(5, "its wear", park.told(10, 2), 0);
        }
        Due.is(5, "the 61st", park.part(10, 0), WindPark.ROOM);
        Due.is(5, "why()", park.why(), WindPark.ROOM);
        Due.is(5, "kind 7 ahead of room", park.part(10, 7), WindPark.OUTSIDE);
        Due.is(5, "still the last", park.told(10, 1), 59);
        Due.is(5, "count(1)", park.count(1), 60);
    }

    private static void casesAndWhatTheyHold() {
        WindPark park = new WindPark(1);
        park.row(0, 3, 2);
        Due.is(6, "set", park.set(0, 1), 1);
        Due.is(6, "set again", park.set(0, 1), 0);
        Due.is(6, "to itself", park.set(0, 0), 0);
        park.put(1, 3, 0, 7);
        Due.is(6, "the same thing", park.get(0, 3, 0), 7);
        park.row(2, 3, 2);
        park.row(3, 3, 2);
        Due.is(6, "a thing alike, not the same", park.set(2, 3), 1);
        Due.is(6, "from empty", park.set(9, 1), 1);
        Due.is(6, "is empty", park.holds(1), WindPark.NONE);
        Due.is(6, "from empty to empty", park.set(9, 1), 0);
        Due.is(6, "c", park.set(24, 0), WindPark.UNKNOWN);
        Due.is(6, "d", park.set(0, -1), WindPark.UNKNOWN);

        Due.is(7, "clear", park.clear(0), 1);
        Due.is(7, "clear again", park.clear(0), 0);
        Due.is(7, "holds", park.holds(0), WindPark.NONE);
        Due.is(7, "unknown", park.clear(24), WindPark.UNKNOWN);
        Due.is(7, "unknown", park.clear(-1), WindPark.UNKNOWN);

        park.grid(4, 1, 1);
        park.cradle(5, 1, 1);
        park.part(6, 1);
        Due.is(8, "grid", park.holds(4), 8);
        Due.is(8, "cradle", park.holds(5), 9);
        Due.is(8, "part", park.holds(6), 10);
        Due.is(8, "empty", park.holds(23), WindPark.NONE);
        Due.is(8, "empty is not refused", park.why(), 0);
        Due.is(8, "unknown", park.holds(24), WindPark.UNKNOWN);
        Due.is(8, "unknown", park.holds(-1), WindPark.UNKNOWN);
    }

    private static void itemsOfEachLane() {
        long[] given = {0, 1, 2, 3, -1, -2, 127, 128, 255, 256, 32767, 32768, 65535, 65536, 1L << 31, 1L << 32,
            Long.MAX_VALUE, Long.MIN_VALUE, 2139095040L, 2139095041L, 0x7f800001L, 0xff800000L, 0xffc00001L,
            0x7ff0000000000000L, 0x7ff0000000000001L, 0xfff0000000000000L, 0xfff0000000000001L};
        for (int lane = 0; lane < 8; lane++) {
            WindPark park = new WindPark(1);
            park.row(lane, lane, 2);
            for (long bits : given) {
                Due.is(9, "put(.., " + lane + ", 1, " + bits + ")", park.put(lane, lane, 1, bits), 1);
                Due.is(10, "get lane " + lane + " of " + bits, park.get(lane, lane, 1), kept(lane, bits));
                Due.is(10, "the item beside", park.get(lane, lane, 0), 0);
            }
        }
    }

    private static long kept(int lane, long bits) {
        switch (lane) {
            case 0: return (byte) bits;
            case 1: return (short) bits;
            case 2: return (char) bits;
            case 3: return (int) bits;
            case 4: return bits;
            case 5: return Float.floatToIntBits(Float.intBitsToFloat((int) bits));
            case 6: return Double.doubleToLongBits(Double.longBitsToDouble(bits));
            default: return bits & 1;
        }
    }

    private static void itemsRefused() {
        WindPark park = new WindPark(1);
        park.row(0, 3, 2);
        park.part(1, 0);
        int[][] calls = {
            {24, 9, 5, WindPark.UNKNOWN}, {-1, 3, 0, WindPark.UNKNOWN}, {0, 8, 5, WindPark.OUTSIDE},
            {0, -1, 0, WindPark.OUTSIDE}, {0, 4, 5, CAST}, {1, 3, 0, CAST}, {2, 3, 9, NOTHING},
            {0, 3, 2, INDEX}, {0, 3, -1, INDEX}, {0, 3, LEAST, INDEX}, {0, 3, GREAT, INDEX}};
        for (int[] call : calls) {
            Due.is(9, "put refused", park.put(call[0], call[1], call[2], 9), call[3]);
            Due.is(9, "why", park.why(), call[3]);
            Due.is(10, "get refused", park.get(call[0], call[1], call[2]), 0);
            Due.is(10, "why", park.why(), call[3]);
        }
        Due.is(9, "nothing changed", park.get(0, 3, 0) + park.get(0, 3, 1), 0);
        Due.is(10, "why of a get that is not refused", park.why(), 0);
    }

    private static void itemsOfGrids() {
        WindPark park = new WindPark(1);
        park.grid(0, 2, 3);
        park.grid(1, 2, -1);
        park.row(2, 3, 3);
        Due.is(11, "putAt", park.putAt(0, 1, 2, LEAST), 1);
        Due.is(12, "getAt", park.getAt(0, 1, 2), LEAST);
        Due.is(12, "beside", park.getAt(0, 0, 2), 0);
        int[][] calls = {
            {24, 0, 0, WindPark.UNKNOWN}, {-1, 0, 0, WindPark.UNKNOWN}, {2, 9, 9, CAST}, {5, 9, 9, NOTHING},
            {1, 2, 0, INDEX}, {1, -1, 0, INDEX}, {1, 1, 9, NOTHING}, {0, 2, 0, INDEX}, {0, 1, 3, INDEX},
            {0, 1, -1, INDEX}};
        for (int[] call : calls) {
            Due.is(11, "putAt refused", park.putAt(call[0], call[1], call[2], 9), call[3]);
            Due.is(11, "why", park.why(), call[3]);
            Due.is(12, "getAt refused", park.getAt(call[0], call[1], call[2]), 0);
            Due.is(12, "why", park.why(), call[3]);
        }
    }

    private static void linkedRows() {
        WindPark park = new WindPark(1);
        park.grid(0, 2, 3);
        park.row(1, 3, 30);
        park.row(2, 4, 30);
        Due.is(13, "link", park.link(0, 1, 1), 1);
        park.putAt(0, 1, 29, 8);
        Due.is(13, "the same row", park.get(1, 3, 29), 8);
        Due.is(13, "an empty case", park.link(0, 1, 9), 1);
        Due.is(13, "missing", park.putAt(0, 1, 0, 1), NOTHING);
        Due.is(13, "c", park.link(24, 0, 1), WindPark.UNKNOWN);
        Due.is(13, "d", park.link(0, 0, 24), WindPark.UNKNOWN);
        Due.is(13, "cast of c", park.link(1, 9, 1), CAST);
        Due.is(13, "cast of d", park.link(0, 9, 2), CAST);
        Due.is(13, "a grid is no row", park.link(0, 0, 0), CAST);
        Due.is(13, "cast of d ahead of nothing", park.link(9, 9, 2), CAST);
        Due.is(13, "nothing", park.link(9, 9, 1), NOTHING);
        Due.is(13, "index", park.link(0, 2, 1), INDEX);
        Due.is(13, "index", park.link(0, -1, 9), INDEX);
        Due.is(13, "row 0 is as it was", park.getAt(0, 0, 2), 0);
        Due.is(13, "and not refused", park.why(), 0);
    }

    private static void laidAndLifted() {
        boolean[][] of = {
            {true, false, false, false, false, false, false, true},
            {false, true, false, false, false, false, false, true},
            {false, true, true, false, false, false, false, true},
            {false, false, false, true, false, false, false, false},
            {false, false, false, true, true, false, false, false},
            {false, false, false, false, false, true, false, false},
            {false, false, false, false, false, true, true, false}};
        WindPark park = new WindPark(1);
        for (int kind = 0; kind < 7; kind++) {
            park.part(0, kind);
            for (int wanted = 0; wanted < 8; wanted++) {
                park.cradle(1, wanted, 2);
                Due.is(14, "lay " + kind + " in " + wanted, park.lay(1, 1, 0), of[kind][wanted] ? 1 : STORE);
                park.cradle(1, kind, 1);
                park.lay(1, 0, 0);
                park.clear(2);
                Due.is(15, "lift " + kind + " as " + wanted, park.lift(1, 0, wanted, 2), of[kind][wanted] ? 1 : CAST);
                Due.is(15, "the case", park.alike(2, of[kind][wanted] ? 0 : 3), 1);
            }
        }
        park.cradle(1, 1, 2);
        park.part(2, 1);
        park.part(3, 0);
        park.row(4, 3, 1);
        Due.is(14, "c", park.lay(24, 0, 2), WindPark.UNKNOWN);
        Due.is(14, "d", park.lay(1, 0, 24), WindPark.UNKNOWN);
        Due.is(14, "cast of c", park.lay(4, 9, 4), CAST);
        Due.is(14, "cast of d", park.lay(1, 9, 4), CAST);
        Due.is(14, "cast of d ahead of nothing", park.lay(9, 9, 4), CAST);
        Due.is(14, "nothing", park.lay(9, 9, 2), NOTHING);
        Due.is(14, "index ahead of store", park.lay(1, 2, 3), INDEX);
        Due.is(14, "store", park.lay(1, 1, 3), STORE);
        Due.is(14, "lay", park.lay(1, 1, 2), 1);
        Due.is(15, "lift", park.lift(1, 1, 1, 5), 1);
        Due.is(15, "it stays, too", park.lift(1, 1, 1, 6), 1);
        Due.is(15, "the same part", park.alike(5, 6), 1);
        Due.is(14, "lay of an empty case", park.lay(1, 1, 9), 1);
        Due.is(15, "lift of missing", park.lift(1, 1, 6, 5), 1);
        Due.is(15, "is empty", park.holds(5), WindPark.NONE);
        Due.is(15, "c", park.lift(24, 0, 9, 5), WindPark.UNKNOWN);
        Due.is(15, "d", park.lift(1, 0, 9, 24), WindPark.UNKNOWN);
        Due.is(15, "kind 8", park.lift(4, 0, 8, 5), WindPark.OUTSIDE);
        Due.is(15, "kind -1", park.lift(1, 0, -1, 5), WindPark.OUTSIDE);
        Due.is(15, "cast of c", park.lift(4, 9, 0, 5), CAST);
        Due.is(15, "nothing", park.lift(9, 9, 0, 5), NOTHING);
        Due.is(15, "index", park.lift(1, 2, 0, 5), INDEX);
        Due.is(15, "index", park.lift(1, -1, 0, 5), INDEX);
        park.lay(1, 0, 2);
        Due.is(15, "cast leaves the case", park.lift(1, 0, 2, 6), CAST);
        Due.is(15, "as it was", park.alike(6, 2), 1);
        Due.is(15, "into its own case", park.lift(1, 0, 7, 1), 1);
        Due.is(15, "now a part", park.holds(1), 10);
    }

    private static void copiedRows() {
        WindPark park = new WindPark(1);
        park.row(0, 3, 5);
        for (int i = 0; i < 5; i++) {
            park.put(0, 3, i, i + 1);
        }
        Due.is(16, "copy within, forward", park.copy(0, 0, 0, 1, 4), 4);
        expectItems(park, 0, 1, 1, 2, 3, 4);
        Due.is(16, "copy within, back", park.copy(0, 2, 0, 0, 3), 3);
        expectItems(park, 0, 2, 3, 4, 3, 4);
        park.row(1, 3, 3);
        Due.is(16, "copy to another", park.copy(0, 1, 1, 1, 2), 2);
        expectItems(park, 1, 0, 3, 4);
        Due.is(16, "none at the ends", park.copy(0, 5, 1, 3, 0), 0);
        Due.is(16, "i beyond", park.copy(0, 6, 1, 0, 0), INDEX);
        Due.is(16, "j beyond", park.copy(0, 0, 1, 4, 0), INDEX);
        Due.is(16, "i below 0", park.copy(0, -1, 1, 0, 1), INDEX);
        Due.is(16, "j below 0", park.copy(0, 0, 1, -1, 1), INDEX);
        Due.is(16, "n below 0", park.copy(0, 1, 1, 1, -1), INDEX);
        Due.is(16, "not so many", park.copy(0, 0, 1, 2, 2), INDEX);
        Due.is(16, "no wrapping around", park.copy(0, GREAT, 1, GREAT, GREAT), INDEX);
        Due.is(16, "no wrapping around", park.copy(0, 1, 1, 1, GREAT), INDEX);
        expectItems(park, 1, 0, 3, 4);
        park.row(2, 4, 5);
        park.part(3, 0);
        park.grid(4, 2, 1);
        park.cradle(5, 0, 2);
        Due.is(16, "c", park.copy(24, 0, 0, 0, 1), WindPark.UNKNOWN);
        Due.is(16, "d", park.copy(0, 0, 24, 0, 1), WindPark.UNKNOWN);
        Due.is(16, "c empty", park.copy(9, 0, 3, 0, 1), NOTHING);
        Due.is(16, "d empty", park.copy(3, 0, 9, 0, 1), NOTHING);
        Due.is(16, "unlike lanes ahead of index", park.copy(0, -1, 2, 0, 1), STORE);
        Due.is(16, "from a part", park.copy(3, -1, 3, 0, 1), STORE);
        Due.is(16, "to a part", park.copy(0, -1, 3, 0, 0), STORE);
        Due.is(16, "row to grid", park.copy(0, -1, 4, 0, 1), STORE);
        Due.is(16, "cradle to row", park.copy(5, -1, 0, 0, 1), STORE);
        Due.is(16, "grid to cradle: index ahead", park.copy(4, -1, 5, 0, 1), INDEX);
    }

    private static void copiedCradlesAndGrids() {
        WindPark park = new WindPark(1);
        park.cradle(0, 7, 4);
        int[] kinds = {1, 2, 0, 1};
        for (int i = 0; i < 4; i++) {
            park.part(10 + i, kinds[i]);
            park.lay(0, i, 10 + i);
        }
        park.cradle(1, 1, 4);
        Due.is(16, "store at the third", park.copy(0, 0, 1, 0, 4), STORE);
        Due.is(16, "why", park.why(), STORE);
        expectParts(park, 1, 10, 11, 9, 9);
        Due.is(16, "store at the first", park.copy(0, 2, 1, 0, 2), STORE);
        expectParts(park, 1, 10, 11, 9, 9);
        Due.is(16, "back to wider", park.copy(1, 0, 0, 2, 2), 2);
        expectParts(park, 0, 10, 11, 10, 11);
        Due.is(16, "within", park.copy(0, 0, 0, 1, 3), 3);
        expectParts(park, 0, 10, 10, 11, 10);
        Due.is(16, "missing ones come", park.copy(1, 2, 0, 0, 2), 2);
        expectParts(park, 0, 9, 9, 11, 10);
        park.grid(2, 3, 2);
        park.grid(3, 3, -1);
        Due.is(16, "grid to grid", park.copy(2, 1, 3, 0, 2), 2);
        park.putAt(3, 0, 1, 6);
        Due.is(16, "the same row", park.getAt(2, 1, 1), 6);
        Due.is(16, "grid to cradle", park.copy(3, 0, 1, 0, 1), STORE);
        Due.is(16, "cradle to grid", park.copy(1, 0, 3, 0, 1), STORE);
        Due.is(16, "missing of a grid to a cradle, up to a row", park.copy(3, 2, 1, 0, 1), 1);
        expectParts(park, 1, 9, 11, 9, 9);
        Due.is(16, "missing of a cradle to a grid", park.copy(1, 2, 3, 0, 1), 1);
        Due.is(16, "is missing", park.putAt(3, 0, 1, 6), NOTHING);
    }

    private static void expectItems(WindPark park, int c, long... due) {
        for (int i = 0; i < due.length; i++) {
            Due.is(16, "item " + i, park.get(c, 3, i), due[i]);
        }
    }

    /** The places of a cradle against cases; case 9 is empty. */
    private static void expectParts(WindPark park, int c, int... due) {
        for (int i = 0; i < due.length; i++) {
            park.lift(c, i, 7, 23);
            Due.is(16, "place " + i, park.alike(23, due[i]), 1);
        }
    }

    private static void lengths() {
        WindPark park = new WindPark(1);
        park.row(0, 7, 11);
        park.grid(1, 4, 2);
        park.cradle(2, 3, 5);
        park.part(3, 3);
        Due.is(17, "row", park.length(0, 7), 11);
        Due.is(17, "grid", park.length(1, 8), 4);
        Due.is(17, "cradle", park.length(2, 9), 5);
        Due.is(17, "case", park.length(24, 11), WindPark.UNKNOWN);
        Due.is(17, "as 10", park.length(3, 10), WindPark.OUTSIDE);
        Due.is(17, "as -1", park.length(0, -1), WindPark.OUTSIDE);
        Due.is(17, "cast of a row", park.length(0, 6), CAST);
        Due.is(17, "cast of a grid", park.length(1, 3), CAST);
        Due.is(17, "cast of a part", park.length(3, 9), CAST);
        Due.is(17, "nothing", park.length(9, 9), NOTHING);
    }

    private static void alikes() {
        WindPark park = new WindPark(1);
        for (int lane = 0; lane < 8; lane++) {
            park.row(0, lane, 2);
            park.row(1, lane, 2);
            Due.is(18, "rows alike", park.alike(0, 1), 2);
            park.put(1, lane, 1, 1);
            Due.is(18, "other bits", park.alike(0, 1), 0);
            park.row(1, lane, 3);
            Due.is(18, "other length", park.alike(0, 1), 0);
            park.row(1, (lane + 1) % 8, 2);
            Due.is(18, "other lane", park.alike(0, 1), 0);
        }
        park.row(0, 6, 1);
        park.row(1, 6, 1);
        park.put(0, 6, 0, 0x7ff0000000000001L);
        park.put(1, 6, 0, -1L);
        Due.is(18, "no number alike", park.alike(0, 1), 2);
        park.put(0, 6, 0, 0);
        park.put(1, 6, 0, Long.MIN_VALUE);
        Due.is(18, "0.0 and -0.0", park.alike(0, 1), 0);
        Due.is(18, "both empty", park.alike(9, 10), 1);
        Due.is(18, "one empty", park.alike(0, 10), 0);
        Due.is(18, "the other empty", park.alike(10, 0), 0);
        park.set(0, 2);
        Due.is(18, "the same", park.alike(0, 2), 1);
        Due.is(18, "c", park.alike(24, 0), WindPark.UNKNOWN);
        Due.is(18, "d", park.alike(0, -1), WindPark.UNKNOWN);
        alikeGridsAndCradles();
    }

    private static void alikeGridsAndCradles() {
        WindPark park = new WindPark(1);
        park.grid(0, 2, 2);
        park.grid(1, 2, 2);
        Due.is(18, "grids alike", park.alike(0, 1), 2);
        park.putAt(0, 1, 1, 4);
        Due.is(18, "an item differs", park.alike(0, 1), 0);
        park.putAt(1, 1, 1, 4);
        park.link(0, 0, 9);
        Due.is(18, "a row is missing", park.alike(0, 1), 0);
        park.link(1, 0, 9);
        Due.is(18, "missing alike", park.alike(0, 1), 2);
        park.grid(1, 3, -1);
        park.grid(0, 2, -1);
        Due.is(18, "unlike lengths", park.alike(0, 1), 0);
        park.cradle(2, 3, 2);
        park.cradle(3, 3, 2);
        Due.is(18, "grid and cradle", park.alike(0, 2), 0);
        park.part(4, 3);
        park.part(5, 3);
        park.lay(2, 0, 4);
        Due.is(18, "a part and missing", park.alike(2, 3), 0);
        park.lay(3, 0, 5);
        Due.is(18, "other parts", park.alike(2, 3), 0);
        park.lay(3, 0, 4);
        Due.is(18, "the same parts", park.alike(2, 3), 2);
        park.cradle(2, 3, 1);
        park.cradle(3, 4, 1);
        Due.is(18, "unlike kinds", park.alike(2, 3), 0);
        park.cradle(3, 3, 2);
        Due.is(18, "unlike lengths", park.alike(2, 3), 0);
        Due.is(18, "two parts", park.alike(4, 5), 0);
        Due.is(18, "a part and a row", park.alike(4, 2), 0);
    }
}
