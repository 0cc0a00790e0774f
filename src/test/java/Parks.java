/** Parks that several tests begin with. */
final class Parks {
    static final int CUPS = 0, VANE = 1, SONIC = 2, DRIVE = 3, PITCH = 4, BLADE = 5;

    private Parks() {
    }

    static long bits(double number) {
        return Double.doubleToLongBits(number);
    }

    /** A new PART goes into a SLOT by way of CASE 22; CASE 23 is EMPTY behind it, and PLANS 8 and 9 are used. */
    static void fit(WindPark park, int t, int slot, int kind) {
        park.part(22, kind);
        fitAgain(park, t, slot, 22);
        park.clear(23);
    }

    /** What a CASE holds goes into a SLOT. */
    static void fitAgain(WindPark park, int t, int slot, int c) {
        park.drop(9);
        park.drop(8);
        park.step(9, 10, t, 8, 0);
        park.step(8, 0, c, 0, 0);
        park.step(8, 12, t, slot, 0);
        Due.is(27, "a fitting of the test itself", park.act(9), 0);
    }

    /** What is in a SLOT comes to CASE 23, if that is EMPTY. */
    static void strip(WindPark park, int t, int slot) {
        park.drop(9);
        park.drop(8);
        park.step(9, 10, t, 8, 0);
        park.step(8, 13, t, slot, 0);
        Due.is(27, "a stripping of the test itself", park.act(9), 0);
    }

    /** The SERIAL of the PART that a CASE holds; NONE. */
    static long serialIn(WindPark park, int c) {
        return park.holds(c) == 10 ? park.told(c, 1) : WindPark.NONE;
    }

    /** Turbines with one vane, a drive and a blade each, all reading the same. */
    static WindPark fitted(int turbines, double reading) {
        WindPark park = new WindPark(turbines);
        for (int t = 0; t < turbines; t++) {
            fit(park, t, 0, VANE);
            fit(park, t, 3, DRIVE);
            fit(park, t, 4, BLADE);
            park.read(t, 0, bits(reading));
        }
        return park;
    }

    /**
     * A park in which whatever a call changes can be seen. CASES: 0 .. 7 ROWS of these LANES, of 3, 2, 2, 4, 2, 3, 3, 2;
     * 8 a GRID of a ROW of 2, the ROW in CASE 3 and a missing one; 9 a CRADLE for VANES of a VANE, a missing one and a
     * SONIC; 10 a DRIVE; 11 as 3; 12 a CRADLE for SENSORS of CUPS and a missing one; 13 a PITCH of SERIAL 0; 14 a BLADE;
     * 15 CUPS; 16 .. 22 EMPTY; 23 a ROW of 30 ints. Turbine 1 MAKES in the wake of turbine 0, turbine 2 is FAILED.
     */
    static WindPark rich() {
        WindPark park = new WindPark(3);
        park.part(13, PITCH);
        fitAll(park, 0);
        fitAll(park, 1);
        fit(park, 2, 0, CUPS);
        turn(park);
        fill(park);
        plan(park);
        park.act(4);
        park.forget();
        park.ask(10, 0, 0);
        return park;
    }

    private static void fitAll(WindPark park, int t) {
        int[] kinds = {CUPS, VANE, SONIC, DRIVE, BLADE};
        park.drop(9);
        park.drop(8);
        park.step(9, 10, t, 8, 0);
        for (int slot = 0; slot < 5; slot++) {
            park.part(slot, kinds[slot]);
            park.step(8, 0, slot, 0, 0);
            park.step(8, 12, t, slot, 0);
        }
        Due.is(27, "a fitting of the test itself", park.act(9), 0);
    }

    private static void turn(WindPark park) {
        for (int s = 0; s < 3; s++) {
            park.read(0, s, bits(11.0 + s));
            park.read(1, s, bits(9.0 + s));
        }
        park.read(2, 0, bits(5.0));
        park.place(0, 1, 1);
        park.place(1, 7, 2);
        park.place(2, -50, 40);
        park.bound(0, bits(500.0));
        park.run(40);
    }

    private static void fill(WindPark park) {
        int[] lengths = {3, 2, 2, 4, 2, 3, 3, 2};
        for (int lane = 0; lane < 8; lane++) {
            park.row(lane, lane, lengths[lane]);
            park.put(lane, lane, 0, lane == 6 ? bits(2.5) : lane == 5 ? Float.floatToIntBits(-1.5f) : 1);
            park.put(lane, lane, 1, -1L);
        }
        park.grid(8, 3, 2);
        park.putAt(8, 0, 1, 12);
        park.link(8, 1, 3);
        park.link(8, 2, 20);
        park.cradle(9, VANE, 3);
        park.part(10, SONIC);
        park.lay(9, 2, 10);
        park.part(10, VANE);
        park.lay(9, 0, 10);
        park.part(10, DRIVE);
        park.set(3, 11);
        park.cradle(12, 7, 2);
        park.part(15, CUPS);
        park.lay(12, 0, 15);
        park.part(14, BLADE);
        park.ask(14, 2, 6);
        park.row(23, 3, 30);
    }

    /** The ACT of PLAN 4 ANSWERS 9, puts FAILURE 2 aside and has something to bring back. */
    private static void plan(WindPark park) {
        park.drop(8);
        park.drop(9);
        int[][] steps = {{0, 3, 5, 0}, {0, 2, 23, 0, 77}, {0, 4, 9}, {1, 0, 3}, {1, 6, 2}, {2, 8, 1, 2, 0}, {4, 9, 1, 0},
            {5, 10, 1, 6}, {6, 11, 1}, {9, 7, 0}, {9, 5}};
        for (int[] given : steps) {
            int[] step = java.util.Arrays.copyOf(given, 5);
            park.step(step[0], step[1], step[2], step[3], step[4]);
        }
    }

    /** 60 PARTS, the last in CASE 0, and 16 STEPS of PLAN 0; else as a new one. */
    static WindPark full() {
        WindPark park = new WindPark(2);
        for (int serial = 0; serial < 60; serial++) {
            park.part(0, serial % 7);
        }
        for (int i = 0; i < 16; i++) {
            park.step(0, 3, i, 0, 0);
        }
        return park;
    }
}
