/** Promises 30 to 39: turbines, findings, why and count. */
public final class TurbinesTest {
    private static final int WAITING = 0, STARTING = 1, MAKING = 2, STOPPING = 3, FAILED = 4;
    private static final int PITCH = 1, TORQUE = 2, TURNS = 3, ENERGY = 4, BOUND = 5, VOTE = 6, WIND = 7;
    private static final long NO_NUMBER = 9221120237041090560L;
    private static final double INFINITE = Double.POSITIVE_INFINITY;

    public static void main(String[] args) {
        newTurbines();
        placesRefused();
        readingsRefused();
        windsAndBoundsRefused();
        runsResetsAndLooksRefused();
        votes();
        coldVotes();
        coldVotesOfFailedAndBare();
        firstSteps();
        stepsByTheFormulas();
        statesGoRound();
        tooFast();
        boundedTorque();
        boundsAtTheEdges();
        wearOfParts();
        windAgainst();
        failures();
        failedTurbines();
        findingsKept();
        wakes();
        wakesAddUp();
        wakesTakeAllWind();
        orderOfTurbines();
        counts();
        why();
        Due.end("TurbinesTest");
    }

    private static double of(WindPark park, int t, int what) {
        return Double.longBitsToDouble(park.of(t, what));
    }

    private static void runUntil(WindPark park, int t, int state) {
        for (int i = 0; i < 400 && park.of(t, 0) != state; i++) {
            park.run(1);
        }
        Due.is(34, "the state that the test waits for", park.of(t, 0), state);
    }

    private static void newTurbines() {
        WindPark park = new WindPark(6);
        for (int t = 0; t < 6; t++) {
            Due.is(36, "state", park.of(t, 0), WAITING);
            Due.bits(36, "pitch", park.of(t, PITCH), 90.0);
            Due.bits(36, "torque", park.of(t, TORQUE), 0.0);
            Due.bits(36, "turns", park.of(t, TURNS), 0.0);
            Due.bits(36, "energy", park.of(t, ENERGY), 0.0);
            Due.bits(36, "bound", park.of(t, BOUND), 1000.0);
            Due.is(36, "vote before", park.of(t, VOTE), 0);
            Due.is(36, "wind before", park.of(t, WIND), 0);
            for (int s = 0; s < 5; s++) {
                Due.is(36, "slot", park.of(t, 8 + s), WindPark.NONE);
            }
        }
        park.run(1);
        Due.is(36, "blind", park.of(0, VOTE), NO_NUMBER);
        Due.bits(36, "no wind", park.of(0, WIND), 0.0);
        Due.is(34, "waits", park.of(0, 0), WAITING);
    }

    private static void placesRefused() {
        WindPark park = new WindPark(2);
        int unknown = WindPark.UNKNOWN, outside = WindPark.OUTSIDE;
        int[][] calls = {{0, 100, -100, 1}, {1, -100, 100, 1}, {2, 101, 0, unknown}, {-1, 0, 0, unknown},
            {0, 101, 0, outside}, {0, -101, 0, outside}, {0, 0, 101, outside}, {0, 0, -101, outside},
            {0, Integer.MIN_VALUE, 0, outside}};
        for (int[] c : calls) {
            Due.is(30, "place " + c[0] + " " + c[1] + " " + c[2], park.place(c[0], c[1], c[2]), c[3]);
            Due.is(30, "why", park.why(), Math.min(0, c[3] == 1 ? 0 : c[3]));
        }
    }

    private static void readingsRefused() {
        WindPark park = Parks.fitted(1, 7.0);
        Due.is(31, "turbine", park.read(1, 0, Parks.bits(5000.0)), WindPark.UNKNOWN);
        Due.is(31, "turbine", park.read(-1, 0, 0), WindPark.UNKNOWN);
        Due.is(31, "sensor 3", park.read(0, 3, Parks.bits(5000.0)), WindPark.UNKNOWN);
        Due.is(31, "sensor -1", park.read(0, -1, 0), WindPark.UNKNOWN);
        double[] outside = {1000.0000000000001, -1000.0000000000001, INFINITE, -INFINITE, Double.MAX_VALUE};
        for (double reading : outside) {
            Due.is(31, "read " + reading, park.read(0, 0, Parks.bits(reading)), WindPark.OUTSIDE);
            Due.is(31, "why", park.why(), WindPark.OUTSIDE);
        }
        park.run(1);
        Due.bits(31, "the old reading", park.of(0, VOTE), 7.0);
        double[] inside = {1000.0, -1000.0, 0.0, -0.0, Double.MIN_VALUE, -2.5e-310};
        for (double reading : inside) {
            Due.is(31, "read " + reading, park.read(0, 0, Parks.bits(reading)), 1);
            park.run(1);
            Due.bits(31, "vote", park.of(0, VOTE), reading);
            Due.bits(31, "wind", park.of(0, WIND), reading);
        }
        Due.is(31, "no number", park.read(0, 0, -1L), 1);
        park.run(1);
        Due.is(31, "blind", park.of(0, VOTE), NO_NUMBER);
    }

    private static void windsAndBoundsRefused() {
        WindPark park = new WindPark(2);
        Due.is(32, "direction 7", park.wind(7, true), 1);
        Due.is(32, "direction 0", park.wind(0, false), 1);
        Due.is(32, "direction 8", park.wind(8, false), WindPark.OUTSIDE);
        Due.is(32, "direction -1", park.wind(-1, false), WindPark.OUTSIDE);
        Due.is(32, "why", park.why(), WindPark.OUTSIDE);
        Due.is(33, "turbine", park.bound(2, -1L), WindPark.UNKNOWN);
        Due.is(33, "turbine", park.bound(-1, 0), WindPark.UNKNOWN);
        double[] outside = {-Double.MIN_VALUE, -1.0, -INFINITE, Double.NaN};
        for (double bound : outside) {
            Due.is(33, "bound " + bound, park.bound(1, Parks.bits(bound)), WindPark.OUTSIDE);
        }
        Due.bits(33, "the old bound", park.of(1, BOUND), 1000.0);
        double[] inside = {0.0, -0.0, Double.MIN_VALUE, 0.1, 123456789.0, Double.MAX_VALUE, INFINITE, Double.MIN_NORMAL};
        for (double bound : inside) {
            Due.is(33, "bound " + bound, park.bound(1, Parks.bits(bound)), 1);
            Due.bits(36, "bound", park.of(1, BOUND), bound);
        }
        Due.bits(33, "the other turbine's", park.of(0, BOUND), 1000.0);
    }

    private static void runsResetsAndLooksRefused() {
        WindPark park = new WindPark(2);
        Due.is(34, "none", park.run(0), WindPark.OUTSIDE);
        Due.is(34, "41", park.run(41), WindPark.OUTSIDE);
        Due.is(34, "-1", park.run(-1), WindPark.OUTSIDE);
        Due.is(34, "no steps", park.count(3), 0);
        Due.is(34, "40", park.run(40), 0);
        Due.is(34, "1", park.run(1), 0);
        Due.is(34, "steps", park.count(3), 41);
        Due.is(35, "turbine", park.reset(2), WindPark.UNKNOWN);
        Due.is(35, "turbine", park.reset(-1), WindPark.UNKNOWN);
        Due.is(35, "not failed", park.reset(0), WindPark.STATE);
        Due.is(35, "why", park.why(), WindPark.STATE);
        int[][] looks = {{2, 13, WindPark.UNKNOWN}, {-1, 0, WindPark.UNKNOWN}, {0, 13, WindPark.OUTSIDE}, {0, -1, WindPark.OUTSIDE}};
        for (int[] look : looks) {
            Due.is(36, "of refused", park.of(look[0], look[1]), 0);
            Due.is(36, "why", park.why(), look[2]);
        }
        Due.is(37, "none such", park.finding(0, 0), WindPark.NONE);
        Due.is(37, "not refused", park.why(), 0);
        Due.is(37, "what 4", park.finding(0, 4), WindPark.OUTSIDE);
        Due.is(37, "what -1", park.finding(-1, -1), WindPark.OUTSIDE);
        Due.is(39, "what 6", park.count(6), WindPark.OUTSIDE);
        Due.is(39, "what -1", park.count(-1), WindPark.OUTSIDE);
    }

    private static void votes() {
        double no = Double.NaN;
        double[][] readings = {{1, 2, 3, 2}, {3, 1, 2, 2}, {2, 3, 1, 2}, {2, no, 1, 1}, {no, 5, 7, 5}, {no, no, 7, 7},
            {no, no, no, no}, {0.0, -0.0, no, -0.0}, {-0.0, 0.0, -0.0, -0.0}, {0.0, -0.0, 0.0, 0.0}, {-3, -2, -1, -2},
            {4, 4, 9, 4}};
        for (double[] row : readings) {
            WindPark park = new WindPark(1);
            for (int s = 0; s < 3; s++) {
                Parks.fit(park, 0, s, s);
                park.read(0, s, Parks.bits(row[s]));
            }
            park.run(1);
            Due.bits(34, "vote", park.of(0, VOTE), row[3]);
            Due.bits(34, "wind", park.of(0, WIND), Double.isNaN(row[3]) ? 0.0 : row[3]);
        }
        for (int bare = 0; bare < 3; bare++) {
            WindPark park = new WindPark(1);
            for (int s = 0; s < 3; s++) {
                if (s != bare) {
                    Parks.fit(park, 0, s, 0);
                }
                park.read(0, s, Parks.bits(s + 1.0));
            }
            park.run(1);
            Due.bits(34, "without a bare slot", park.of(0, VOTE), bare == 0 ? 2.0 : 1.0);
        }
    }

    private static void coldVotes() {
        WindPark park = new WindPark(1);
        Parks.fit(park, 0, 0, Parks.VANE);
        park.wind(0, true);
        park.read(0, 0, Parks.bits(2.0));
        park.run(1);
        Due.bits(34, "there were no two steps", park.of(0, VOTE), 2.0);
        park.run(1);
        Due.bits(34, "there was one", park.of(0, VOTE), 2.0);
        park.run(1);
        Due.is(34, "the same in both", park.of(0, VOTE), NO_NUMBER);
        park.wind(0, false);
        park.run(1);
        Due.bits(34, "not cold", park.of(0, VOTE), 2.0);
        park.wind(0, true);
        park.read(0, 0, Parks.bits(3.0));
        park.run(1);
        Due.bits(34, "other in both", park.of(0, VOTE), 3.0);
        park.run(1);
        Due.bits(34, "other in one", park.of(0, VOTE), 3.0);
        park.run(1);
        Due.is(34, "other in none", park.of(0, VOTE), NO_NUMBER);
        park.read(0, 0, Parks.bits(2.0));
        park.read(0, 0, Parks.bits(3.0));
        park.run(1);
        Due.is(34, "it is the step that counts", park.of(0, VOTE), NO_NUMBER);
        park.read(0, 0, Parks.bits(0.0));
        park.run(3);
        Due.is(34, "0.0", park.of(0, VOTE), NO_NUMBER);
        park.read(0, 0, Parks.bits(-0.0));
        park.run(1);
        Due.bits(34, "-0.0 has other bits", park.of(0, VOTE), -0.0);
        park.read(0, 0, -1L);
        park.run(1);
        park.read(0, 0, Parks.bits(-0.0));
        park.run(1);
        Due.bits(34, "no number in one", park.of(0, VOTE), -0.0);
        park.run(1);
        Due.bits(34, "no number in the one before", park.of(0, VOTE), -0.0);
        park.run(1);
        Due.is(34, "in none", park.of(0, VOTE), NO_NUMBER);
    }

    private static void coldVotesOfFailedAndBare() {
        WindPark park = new WindPark(1);
        Parks.fit(park, 0, 0, Parks.VANE);
        park.wind(0, true);
        park.read(0, 0, Parks.bits(9.0));
        Due.is(34, "fails", park.run(1), 1);
        park.read(0, 0, Parks.bits(2.0));
        park.run(2);
        Due.bits(34, "of a failed one as it was", park.of(0, VOTE), 9.0);
        park.reset(0);
        park.run(1);
        Due.is(34, "steps of a failed turbine count", park.of(0, VOTE), NO_NUMBER);
        Parks.strip(park, 0, 0);
        park.read(0, 0, Parks.bits(3.0));
        park.run(2);
        Parks.fit(park, 0, 0, Parks.VANE);
        park.run(1);
        Due.is(34, "steps of a bare slot count", park.of(0, VOTE), NO_NUMBER);
    }

    private static void firstSteps() {
        WindPark park = Parks.fitted(1, 12.0);
        double pitch = 90.0;
        double turns = 0.0;
        for (int i = 1; i <= 13; i++) {
            park.run(1);
            pitch = i < 12 ? pitch - 6.0 : 20.0;
            turns = Math.max(0.0, turns + 0.1 * (12.0 * (1.0 - pitch / 90.0) - 0.0 - 0.1 * turns));
            Due.is(34, "starting", park.of(0, 0), STARTING);
            Due.bits(34, "pitch", park.of(0, PITCH), pitch);
            Due.bits(34, "torque", park.of(0, TORQUE), 0.0);
            Due.bits(34, "turns", park.of(0, TURNS), turns);
            Due.bits(34, "energy", park.of(0, ENERGY), 0.0);
        }
        runUntil(park, 0, MAKING);
        double[] was = {of(park, 0, TORQUE), of(park, 0, TURNS), of(park, 0, ENERGY), of(park, 0, PITCH)};
        Due.bits(34, "the first torque", park.of(0, TORQUE), 0.5);
        Due.bits(34, "the first energy", park.of(0, ENERGY), 0.5 * was[1]);
        park.run(1);
        double torque = was[0] + Math.min(0.5, was[1] * 0.5 - was[0]);
        double by = Math.max(-6.0, -was[3]);
        turns = was[1] + 0.1 * (12.0 * (1.0 - (was[3] + by) / 90.0) - torque - 0.1 * was[1]);
        Due.bits(34, "the next torque", park.of(0, TORQUE), torque);
        Due.bits(34, "the next turns", park.of(0, TURNS), turns);
        Due.bits(34, "the next energy", park.of(0, ENERGY), was[2] + torque * turns);
    }

    private static final double[][] SPELLS = {{9.0, 1000.0}, {12.0, 1000.0}, {12.0, 30.0}, {17.5, 60.0}, {25.0, 1000.0}, {31.0, 8.0},
        {Double.NaN, 20.0}, {14.0, 14.5}, {-2.0, 14.5}, {60.0, 500.0}, {Double.NaN, 1000.0}, {9.25, 1.0e-300}};
    private static final int SPELL = 40;

    /** Readings and bounds that bring a turbine through all states but FAILED; each step is reckoned anew. */
    private static void stepsByTheFormulas() {
        double[] reckoned = {WAITING, 90.0, 0.0, 0.0, 0.0};
        int[] seen = new int[5];
        for (int spell = 0; spell < SPELLS.length; spell++) {
            WindPark park = behindSpells(spell);
            beginSpell(park, spell);
            for (int i = 0; i < SPELL; i++) {
                stepByTheFormulas(reckoned, SPELLS[spell][0], SPELLS[spell][1]);
                park.run(1);
                seen[(int) park.of(0, 0)]++;
                Due.is(34, "state by the formulas", park.of(0, 0), (long) reckoned[0]);
                for (int what = PITCH; what <= ENERGY; what++) {
                    Due.bits(34, "figure " + what + " by the formulas", park.of(0, what), reckoned[what]);
                }
            }
        }
        for (int state = WAITING; state <= STOPPING; state++) {
            Due.is(34, "state " + state + " was seen", seen[state] > 0 ? 1 : 0, 1);
        }
        Due.is(34, "and not FAILED", seen[FAILED], 0);
    }

    private static void beginSpell(WindPark park, int spell) {
        park.read(0, 0, Parks.bits(SPELLS[spell][0]));
        park.bound(0, Parks.bits(SPELLS[spell][1]));
    }

    /** Each spell has a park of its own, for one park would be used for too many calls. */
    private static WindPark behindSpells(int spells) {
        WindPark park = Parks.fitted(1, 0.0);
        for (int spell = 0; spell < spells; spell++) {
            beginSpell(park, spell);
            park.run(SPELL);
        }
        return park;
    }

    /** Of what is reckoned: STATE, PITCH, TORQUE, TURNS, ENERGY. */
    private static void stepByTheFormulas(double[] reckoned, double vote, double bound) {
        double pitch = reckoned[PITCH];
        double torque = reckoned[TORQUE];
        double turns = reckoned[TURNS];
        int state = stateAfter((int) reckoned[0], vote, turns, bound);
        double goal = state == STARTING ? 20.0 : state == MAKING ? Math.max(0.0, (turns - 10.0) * 8.0) : 90.0;
        double rate = state == STOPPING ? 12.0 : 6.0;
        pitch = pitch + Math.max(-rate, Math.min(rate, goal - pitch));
        torque = state == MAKING ? torque + Math.max(-0.5, Math.min(0.5, turns * 0.5 - torque)) : torque / 2.0;
        double wind = Double.isNaN(vote) ? 0.0 : vote;
        turns = Math.max(0.0, turns + 0.1 * (wind * (1.0 - pitch / 90.0) - torque - 0.1 * turns));
        if (torque * turns > bound) {
            torque = bound / turns;
        }
        double[] next = {state, pitch, torque, turns, reckoned[ENERGY] + torque * turns};
        System.arraycopy(next, 0, reckoned, 0, next.length);
    }

    private static int stateAfter(int state, double vote, double turns, double bound) {
        boolean blind = Double.isNaN(vote);
        if (state == WAITING) {
            return !blind && vote >= 4.0 && bound > 0.0 ? STARTING : WAITING;
        }
        if (state == STOPPING) {
            return turns < 0.5 ? WAITING : STOPPING;
        }
        if (blind || turns > 16.0) {
            return STOPPING;
        }
        return turns >= 6.0 ? MAKING : state;
    }

    private static void statesGoRound() {
        WindPark park = Parks.fitted(1, 3.9999999999999996);
        park.run(5);
        Due.is(34, "too little wind", park.of(0, 0), WAITING);
        park.read(0, 0, Parks.bits(4.0));
        park.bound(0, Parks.bits(0.0));
        park.run(1);
        Due.is(34, "no bound", park.of(0, 0), WAITING);
        park.bound(0, Parks.bits(Double.MIN_VALUE));
        park.run(1);
        Due.is(34, "4.0", park.of(0, 0), STARTING);
        park.read(0, 0, -1L);
        park.run(1);
        Due.is(34, "blind", park.of(0, 0), STOPPING);
        park.run(1);
        Due.is(34, "slow", park.of(0, 0), WAITING);
        park.bound(0, Parks.bits(1000.0));
        park.read(0, 0, Parks.bits(11.0));
        double before = 0.0;
        park.run(1);
        for (int i = 0; i < 100 && park.of(0, 0) == STARTING; i++) {
            before = of(park, 0, TURNS);
            park.run(1);
            Due.is(34, "making from 6.0 turns on", park.of(0, 0), before >= 6.0 ? MAKING : STARTING);
        }
        Due.is(34, "making", park.of(0, 0), MAKING);
        park.run(10);
        double torque = of(park, 0, TORQUE);
        double pitch = of(park, 0, PITCH);
        park.read(0, 0, -1L);
        park.run(1);
        Due.is(34, "blind", park.of(0, 0), STOPPING);
        Due.bits(34, "half the torque", park.of(0, TORQUE), torque / 2.0);
        Due.bits(34, "quick blades", park.of(0, PITCH), pitch + 12.0);
        for (int i = 0; i < 20 && park.of(0, 0) != WAITING; i++) {
            park.run(40);
        }
        Due.is(34, "waiting", park.of(0, 0), WAITING);
        Due.bits(34, "blades home", park.of(0, PITCH), 90.0);
        Due.is(34, "no findings", park.count(4), 0);
    }

    private static void tooFast() {
        WindPark park = Parks.fitted(1, 900.0);
        double before = 0.0;
        park.run(1);
        for (int i = 0; i < 40 && park.of(0, 0) != STOPPING; i++) {
            before = of(park, 0, TURNS);
            park.run(1);
        }
        Due.is(34, "stopping", park.of(0, 0), STOPPING);
        Due.is(34, "above 16.0", before > 16.0 ? 1 : 0, 1);
        park = Parks.fitted(1, 25.0);
        runUntil(park, 0, MAKING);
        for (int i = 0; i < 20 && of(park, 0, TURNS) <= 10.0; i++) {
            park.run(1);
        }
        double turns = of(park, 0, TURNS);
        double pitch = of(park, 0, PITCH);
        park.run(1);
        double goal = Math.min(90.0, (turns - 10.0) * 8.0);
        Due.bits(34, "pitch by turns", park.of(0, PITCH), pitch + Math.max(-6.0, Math.min(6.0, goal - pitch)));
    }

    private static void boundedTorque() {
        WindPark park = Parks.fitted(1, 12.0);
        runUntil(park, 0, MAKING);
        double energy = of(park, 0, ENERGY);
        park.bound(0, Parks.bits(1.0));
        park.run(1);
        double turns = of(park, 0, TURNS);
        double torque = 1.0 / turns;
        Due.bits(34, "torque by the bound", park.of(0, TORQUE), torque);
        Due.bits(34, "energy", park.of(0, ENERGY), energy + torque * turns);
        park.bound(0, Parks.bits(-0.0));
        park.run(1);
        Due.bits(34, "a bound of -0.0", park.of(0, TORQUE), -0.0);
        park.bound(0, Parks.bits(INFINITE));
        park.run(1);
        Due.bits(34, "no bound", park.of(0, TORQUE), 0.5);
    }

    private static void boundsAtTheEdges() {
        WindPark park = Parks.fitted(1, 12.0);
        park.bound(0, Parks.bits(-0.0));
        park.run(1);
        Due.is(34, "-0.0 is not above 0.0", park.of(0, 0), WAITING);
        park.bound(0, Parks.bits(INFINITE));
        park.run(1);
        Due.is(34, "infinity is", park.of(0, 0), STARTING);
        int[] halvings = {1, 2, 40, 1022, 1023, 1040, 1060, 1072, 1073, 1074, 1075, 1076, 1080, 1200};
        for (int n : halvings) {
            park = Parks.fitted(1, 12.0);
            runUntil(park, 0, MAKING);
            double torque = of(park, 0, TORQUE);
            park.read(0, 0, -1L);
            for (int left = n; left > 0; left -= 40) {
                park.run(Math.min(40, left));
            }
            for (int i = 0; i < n; i++) {
                torque = torque / 2.0;
            }
            Due.bits(34, "torque halved " + n + " times", park.of(0, TORQUE), torque);
        }
    }

    private static void wearOfParts() {
        WindPark park = new WindPark(1);
        Parks.fit(park, 0, 0, Parks.VANE);
        Parks.fit(park, 0, 3, Parks.PITCH);
        Parks.fit(park, 0, 4, Parks.BLADE);
        park.read(0, 0, Parks.bits(8.75));
        park.run(1);
        int[] bodies = {33, 32, 15, 14, WindPark.NONE};
        for (int i = 0; i < bodies.length; i++) {
            Due.is(34, "bodies of a drive", park.traced(i), bodies[i]);
        }
        park.run(10);
        Due.is(34, "eleven times by 6", wear(park, 3), 11 * (6 * 6 / 100 + 6 / 1));
        park.run(1);
        Due.is(34, "and by 4", wear(park, 3), 66 + 4);
        park.run(1);
        Due.is(34, "not by 0.0", wear(park, 3), 70);
        Due.is(34, "the blade is not asked", wear(park, 4), 0);
        runUntil(park, 0, MAKING);
        Due.is(34, "the blade is asked", wear(park, 4), 8);
        park.forget();
        park.read(0, 0, Parks.bits(1000.0));
        park.run(1);
        Due.is(34, "by 1000", wear(park, 4), 1008);
        Due.is(34, "its body, behind the drive's four", park.traced(4), 31);
    }

    /** The WEAR of what is in a SLOT, which is taken out and fitted again. */
    private static long wear(WindPark park, int slot) {
        Parks.strip(park, 0, slot);
        long wear = park.told(23, 2);
        Parks.fitAgain(park, 0, slot, 23);
        return wear;
    }

    private static void windAgainst() {
        WindPark park = Parks.fitted(1, 12.0);
        runUntil(park, 0, MAKING);
        long wear = wear(park, 4);
        park.read(0, 0, Parks.bits(-3.5));
        park.run(1);
        Due.is(34, "making", park.of(0, 0), MAKING);
        Due.is(34, "a load below 0", wear(park, 4), wear - 3);
        park.read(0, 0, Parks.bits(-1000.0));
        park.run(1);
        Due.bits(34, "turns are not below 0.0", park.of(0, TURNS), 0.0);
        park.run(1);
        Due.bits(34, "nor torque", park.of(0, TORQUE) & Long.MIN_VALUE, 0.0);
    }

    private static void failures() {
        WindPark park = new WindPark(2);
        Parks.fit(park, 1, 0, Parks.VANE);
        park.read(1, 0, Parks.bits(5.0));
        Due.is(34, "a finding", park.run(1), 1);
        finding(park, 0, 1, 3, 1, 1);
        Due.is(34, "failed", park.of(1, 0), FAILED);
        Due.bits(34, "pitch as it was", park.of(1, PITCH), 90.0);
        Due.bits(34, "vote", park.of(1, VOTE), 5.0);
        Due.is(35, "reset", park.reset(1), 1);
        Due.is(35, "waiting", park.of(1, 0), WAITING);
        Due.is(35, "reset again", park.reset(1), WindPark.STATE);
        Due.is(34, "another", park.run(3), 1);
        finding(park, 1, 1, 3, 1, 2);

        park = new WindPark(1);
        Parks.fit(park, 0, 3, Parks.PITCH);
        Parks.fit(park, 0, 0, Parks.VANE);
        park.read(0, 0, Parks.bits(5.0));
        Due.is(34, "serial 0", park.run(2), 1);
        finding(park, 0, 0, 3, 6, 1);
        Due.is(34, "bodies that began", park.count(5), 4);

        park = Parks.fitted(1, 12.0);
        Parks.strip(park, 0, 4);
        int came = 0;
        for (int i = 0; i < 40 && came == 0; i++) {
            came = park.run(1);
        }
        finding(park, 0, 0, 4, 1, park.count(3));
        Due.is(34, "failed", park.of(0, 0), FAILED);
        Due.bits(34, "torque", park.of(0, TORQUE), 0.0);
        Due.bits(34, "energy came", park.of(0, ENERGY), 0.5 * of(park, 0, TURNS));
    }

    private static void finding(WindPark park, int i, int... due) {
        for (int what = 0; what < 4; what++) {
            Due.is(37, "finding " + i + " " + what, park.finding(i, what), due[what]);
        }
        Due.is(37, "none behind it", park.finding(i + 1, 0), WindPark.NONE);
        Due.is(37, "none ahead", park.finding(-1, 0), WindPark.NONE);
    }

    private static void failedTurbines() {
        WindPark park = Parks.fitted(1, 12.0);
        runUntil(park, 0, MAKING);
        park.run(3);
        Parks.strip(park, 0, 4);
        Due.is(34, "fails", park.run(1), 1);
        double turns = of(park, 0, TURNS);
        long[] was = new long[8];
        for (int what = 0; what < 8; what++) {
            was[what] = park.of(0, what);
        }
        park.read(0, 0, Parks.bits(9.0));
        for (int i = 0; i < 30; i++) {
            Due.is(34, "no more", park.run(40), 0);
            for (int step = 0; step < 40; step++) {
                turns = turns * 0.5;
            }
            Due.bits(34, "turns halved", park.of(0, TURNS), turns);
        }
        for (int what = 0; what < 8; what++) {
            Due.is(36, "as it was " + what, park.of(0, what), what == TURNS ? 0 : was[what]);
        }
    }

    private static void findingsKept() {
        WindPark park = new WindPark(6);
        for (int t = 0; t < 6; t++) {
            Parks.fit(park, t, 0, Parks.VANE);
            park.read(t, 0, Parks.bits(5.0));
        }
        for (int i = 0; i < 7; i++) {
            Due.is(34, "six come", park.run(1), 6);
            for (int t = 0; t < 6; t++) {
                park.reset(t);
            }
        }
        Due.is(39, "40 are kept", park.count(4), 40);
        int[] due = {3, 3, 1, 7};
        for (int what = 0; what < 4; what++) {
            Due.is(37, "the last kept", park.finding(39, what), due[what]);
            Due.is(37, "the 41st", park.finding(40, what), WindPark.NONE);
        }
    }

    /** Turbine 0 made to MAKE at its place; the WIND that turbine 1 has there, its own reading 10.0. */
    private static double windBehind(int direction, int[] first, int[] second) {
        WindPark park = Parks.fitted(2, 12.0);
        park.read(1, 0, Parks.bits(1.0));
        park.wind(direction, false);
        park.place(0, first[0], first[1]);
        park.place(1, second[0], second[1]);
        runUntil(park, 0, MAKING);
        park.read(1, 0, Parks.bits(10.0));
        park.run(1);
        Due.is(34, "still making", park.of(0, 0), MAKING);
        return of(park, 1, WIND);
    }

    private static double lessened(int p) {
        double e = 1.0 + p * 0.1;
        double d = 0.6 / (e * e);
        return 10.0 * (1.0 - Math.sqrt(0.0 + d * d));
    }

    private static void wakes() {
        int[][] ways = {{1, 0}, {1, 1}, {0, 1}, {-1, 1}, {-1, 0}, {-1, -1}, {0, -1}, {1, -1}};
        for (int direction = 0; direction < 8; direction++) {
            int dx = ways[direction][0];
            int dy = ways[direction][1];
            int[] here = {2, -1};
            int[] behind = {2 + 5 * dx, -1 + 5 * dy};
            int p = 5 * (dx * dx + dy * dy);
            Due.bits(34, "behind, direction " + direction, Parks.bits(windBehind(direction, here, behind)), lessened(p));
            Due.bits(34, "ahead, direction " + direction, Parks.bits(windBehind(direction, behind, here)), 10.0);
        }
        int[] first = {0, 0};
        int[][] places = {{1, 0}, {1, 3}, {1, 4}, {1, -3}, {1, -4}, {3, 3}, {3, 4}, {4, 4}, {4, 5}, {7, 4}, {7, 5}, {8, 5},
            {8, -5}, {8, -6}, {100, 28}, {100, 29}, {0, 1}, {0, 0}};
        for (int[] second : places) {
            int p = second[0];
            boolean within = p > 0 && Math.abs(second[1]) <= 3 + p / 4;
            Due.bits(34, "at " + p + ", " + second[1], Parks.bits(windBehind(0, first, second)), within ? lessened(p) : 10.0);
        }
    }

    private static void wakesAddUp() {
        WindPark park = Parks.fitted(6, 14.0);
        for (int t = 0; t < 6; t++) {
            park.place(t, t == 5 ? 3 : t % 2, 0);
        }
        park.read(5, 0, Parks.bits(1.0));
        park.run(40);
        int making = 0;
        double sum = 0.0;
        int[] order = {0, 2, 4, 1, 3};
        for (int t : order) {
            if (park.of(t, 0) == MAKING) {
                making++;
                double e = 1.0 + (3 - t % 2) * 0.1;
                double d = 0.6 / (e * e);
                sum = sum + d * d;
            }
        }
        Due.is(34, "more than one is making", making > 1 ? 1 : 0, 1);
        double loss = Math.min(1.0, Math.sqrt(sum));
        long[] states = new long[5];
        for (int t = 0; t < 5; t++) {
            states[t] = park.of(t, 0);
        }
        park.read(5, 0, Parks.bits(8.0));
        park.run(1);
        for (int t = 0; t < 5; t++) {
            Due.is(34, "the same states", park.of(t, 0), states[t]);
        }
        Due.bits(34, "wakes added up", park.of(5, WIND), 8.0 * (1.0 - loss));
    }

    private static void wakesTakeAllWind() {
        WindPark park = Parks.fitted(6, 12.0);
        park.read(5, 0, Parks.bits(1.0));
        park.place(5, 1, 0);
        runUntil(park, 4, MAKING);
        park.read(5, 0, Parks.bits(7.0));
        park.run(1);
        Due.bits(34, "wakes of five", park.of(5, WIND), 0.0);
        park.read(5, 0, Parks.bits(-7.0));
        park.run(1);
        Due.bits(34, "wakes of five, the wind against", park.of(5, WIND), -0.0);
        park.place(4, 1, 9);
        park.run(1);
        double d = 0.6 / (1.1 * 1.1);
        double sum = d * d + d * d + d * d + d * d;
        Due.bits(34, "wakes of four", park.of(5, WIND), -7.0 * (1.0 - Math.sqrt(sum)));
    }

    private static void orderOfTurbines() {
        WindPark park = new WindPark(4);
        int[] x = {5, -5, 5, -6};
        for (int t = 0; t < 4; t++) {
            Parks.fit(park, t, 0, Parks.VANE);
            park.read(t, 0, Parks.bits(5.0));
            park.place(t, x[t], 9 * t);
        }
        Due.is(34, "all fail", park.run(1), 4);
        int[] due = {3, 1, 0, 2};
        for (int i = 0; i < 4; i++) {
            Due.is(37, "by line, then by number", park.finding(i, 0), due[i]);
            park.reset(i);
        }
        park.wind(4, false);
        Due.is(34, "all fail", park.run(1), 4);
        int[] back = {0, 2, 1, 3};
        for (int i = 0; i < 4; i++) {
            Due.is(37, "against it", park.finding(4 + i, 0), back[i]);
        }
    }

    private static void counts() {
        WindPark park = new WindPark(3);
        int[] none = {3, 0, 0, 0, 0, 0};
        for (int what = 0; what < 6; what++) {
            Due.is(39, "count of a new one", park.count(what), none[what]);
        }
        park.part(0, 2);
        park.part(0, 0);
        park.row(1, 1, 1);
        park.set(1, 2);
        park.ask(0, 1, 0);
        park.run(7);
        int[] due = {3, 2, 3, 7, 0, 2};
        for (int what = 0; what < 6; what++) {
            Due.is(39, "count " + what, park.count(what), due[what]);
        }
        park.clear(1);
        Due.is(39, "cases", park.count(2), 2);
    }

    private static void why() {
        WindPark park = new WindPark(1);
        Due.is(38, "at first", park.why(), 0);
        park.clear(99);
        Due.is(38, "refused", park.why(), WindPark.UNKNOWN);
        Due.is(38, "asked again", park.why(), WindPark.UNKNOWN);
        park.count(0);
        Due.is(38, "a call that was not refused", park.why(), 0);
        park.put(0, 0, 0, 0);
        Due.is(38, "a failure", park.why(), -11);
        park.holds(0);
        Due.is(38, "NONE is no refusal", park.why(), 0);
        Parks.fit(park, 0, 0, Parks.VANE);
        park.read(0, 0, Parks.bits(5.0));
        Due.is(38, "a finding", park.run(1), 1);
        Due.is(38, "is no failure of the call", park.why(), 0);
        String[] calls = {"traced", "forget", "said", "acted", "finding", "of", "told"};
        for (String call : calls) {
            park.clear(99);
            look(park, call);
            Due.is(38, "why() behind " + call, park.why(), 0);
        }
    }

    private static void look(WindPark park, String call) {
        park.part(5, 0);
        park.clear(99);
        switch (call) {
            case "traced": park.traced(0); break;
            case "forget": park.forget(); break;
            case "said": park.said(0); break;
            case "acted": park.acted(0); break;
            case "finding": park.finding(0, 0); break;
            case "of": park.of(0, 0); break;
            default: park.told(5, 0);
        }
    }
}
