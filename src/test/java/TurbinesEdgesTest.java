import java.util.function.DoubleFunction;

/** Promises 30 to 39, and "4 TURBINES" in the terms: each sentence that names a boundary case, one method each. */
public final class TurbinesEdgesTest {
    private static final int NONE = WindPark.NONE, UNKNOWN = WindPark.UNKNOWN, OUTSIDE = WindPark.OUTSIDE;
    private static final int WAITING = 0, STARTING = 1, MAKING = 2, STOPPING = 3, FAILED = 4;
    private static final int STATE = 0, PITCH = 1, TORQUE = 2, TURNS = 3, ENERGY = 4, BOUND = 5, VOTE = 6, WIND = 7, SLOTS = 8;
    private static final int MOST = Integer.MAX_VALUE, LEAST = Integer.MIN_VALUE;
    private static final long NO_NUMBER = 9221120237041090560L;
    private static final double INFINITE = Double.POSITIVE_INFINITY;
    private static final int[][] WAYS = {{1, 0}, {1, 1}, {0, 1}, {-1, 1}, {-1, 0}, {-1, -1}, {0, -1}, {1, -1}};

    public static void main(String[] args) {
        newTurbinesAreAsTold();
        readingsAreNoNumberAtFirst();
        placesUpTo100();
        readingsUpTo1000();
        directionsFrom0To7();
        boundsFromZeroOn();
        runsOf1To40();
        turbinesGoByLineThenByNumber();
        votesOfOneTwoAndThree();
        votesOfBareSlotsAndNoNumbers();
        coldVotesInTheFirstTwoSteps();
        coldVotesOfOtherBits();
        coldVotesOfEachSensor();
        coldVotesOfFailedTurbinesAndBareSlots();
        coldComesAndGoes();
        wakesNearAndFar();
        wakesOfThoseThatMake();
        wakesTakeAtMostAll();
        blindHasNoWind();
        waitingStarts();
        startingMakes();
        startingAndMakingStop();
        stoppingWaits();
        oneStateAStep();
        pitchByItsRates();
        pitchWhileMaking();
        drivesAreAskedIfPitchMoves();
        loadsOfDrivesAreCut();
        drivesThatFail();
        torqueByHalves();
        turnsAreNotBelowZero();
        torqueWithinTheBound();
        bladesAreAskedWhileMaking();
        bladesThatFail();
        loadsOfWind();
        failedTurbinesTurnOut();
        resetFailedOnes();
        findingsKept40();
        findingsOfNoneSuch();
        figuresBeforeAndOfFailed();
        figuresOfSlots();
        whyOfTheLatestCall();
        countsFrom0To5();
        callsUpTo512();
        Due.end("TurbinesEdgesTest");
    }

    private static double of(WindPark park, int t, int what) {
        return Double.longBitsToDouble(park.of(t, what));
    }

    private static void read(WindPark park, double... readings) {
        for (int s = 0; s < readings.length; s++) {
            Due.is(31, "a reading of the test itself", park.read(0, s, Parks.bits(readings[s])), 1);
        }
    }

    /** Figures of turbine 0 in the order of of(): STATE, PITCH, TORQUE, .. */
    private static double[] figures(WindPark park) {
        double[] figures = new double[8];
        for (int what = 1; what < 8; what++) {
            figures[what] = of(park, 0, what);
        }
        figures[STATE] = park.of(0, STATE);
        return figures;
    }

    /** One turbine that is MAKING by a wind of 12.0. */
    private static WindPark making() {
        WindPark park = Parks.fitted(1, 12.0);
        for (int i = 0; i < 40 && park.of(0, STATE) != MAKING; i++) {
            park.run(1);
        }
        Due.is(34, "the test's own turbine is making", park.of(0, STATE), MAKING);
        return park;
    }

    /** One turbine that MAKES, its PITCH 0.0. */
    private static WindPark makingAtPitch0() {
        WindPark park = making();
        read(park, 8.0);
        park.run(3);
        Due.bits(34, "the test's own turbine has pitch 0.0", park.of(0, PITCH), 0.0);
        return park;
    }

    /** One turbine that has STARTED slowly, its PITCH 20.0. */
    private static WindPark starting() {
        WindPark park = Parks.fitted(1, 4.0);
        park.run(12);
        Due.is(34, "the test's own turbine is starting", park.of(0, STATE), STARTING);
        return park;
    }

    /** One turbine that is STOPPING, its blades home, without wind. */
    private static WindPark stopping() {
        WindPark park = starting();
        park.read(0, 0, -1L);
        park.run(5);
        Due.is(34, "the test's own turbine is stopping", park.of(0, STATE), STOPPING);
        return park;
    }

    /** The park behind one STEP more with a reading. */
    private static WindPark stepped(WindPark park, double reading) {
        read(park, reading);
        park.run(1);
        return park;
    }

    /** The least reading by which a park's turbine comes to have so many TURNS or more; they grow with the reading. */
    private static double leastReadingFor(double turns, DoubleFunction<WindPark> parkBy) {
        double low = -1000.0;
        double high = 1000.0;
        for (int i = 0; i < 100; i++) {
            double middle = (low + high) / 2.0;
            if (of(parkBy.apply(middle), 0, TURNS) < turns) {
                low = middle;
            } else {
                high = middle;
            }
        }
        return high;
    }

    /** The park whose turbine comes to have just so many TURNS. */
    private static WindPark withTurns(double turns, DoubleFunction<WindPark> parkBy) {
        WindPark park = parkBy.apply(leastReadingFor(turns, parkBy));
        Due.bits(34, "the turns that the test looks for", park.of(0, TURNS), turns);
        return park;
    }

    /** "PITCH (90.0), TORQUE, TURNS, ENERGY, BOUND (1000.0) and STATE: 0 WAITING", "6, 7 0 before", "SLOTS 0 .. 4 (bare)". */
    private static void newTurbinesAreAsTold() {
        for (int turbines = 1; turbines <= 6; turbines++) {
            WindPark park = new WindPark(turbines);
            for (int t = 0; t < turbines; t++) {
                long[] due = {WAITING, Parks.bits(90.0), 0, 0, 0, Parks.bits(1000.0), 0, 0, NONE, NONE, NONE, NONE, NONE};
                for (int what = 0; what < 13; what++) {
                    Due.is(36, "of(" + t + ", " + what + ")", park.of(t, what), due[what]);
                    Due.is(36, "why", park.why(), 0);
                }
            }
            Due.is(36, "no more turbines", park.of(turbines, 0), 0);
            Due.is(36, "why", park.why(), UNKNOWN);
            Due.is(37, "no findings", park.finding(0, 0), NONE);
        }
    }

    /** "of SENSORS 0 .. 2 a READING (a double; no number at first)". */
    private static void readingsAreNoNumberAtFirst() {
        for (int s = 0; s < 3; s++) {
            WindPark park = new WindPark(1);
            Parks.fit(park, 0, s, s);
            park.run(1);
            Due.is(34, "blind", park.of(0, VOTE), NO_NUMBER);
            Due.is(34, "waiting", park.of(0, STATE), WAITING);
            Due.is(31, "a reading", park.read(0, s, Parks.bits(2.0)), 1);
            park.run(1);
            Due.bits(34, "no more", park.of(0, VOTE), 2.0);
            Due.is(31, "no number again", park.read(0, s, NO_NUMBER), 1);
            park.run(1);
            Due.is(34, "blind", park.of(0, VOTE), NO_NUMBER);
        }
    }

    /** "The PLACE of a turbine (-100 .. 100 each): 1." */
    private static void placesUpTo100() {
        int[] near = {-100, -99, 0, 99, 100};
        WindPark park = new WindPark(6);
        for (int x : near) {
            for (int y : near) {
                Due.is(30, "place " + x + ", " + y, park.place(5, x, y), 1);
                Due.is(30, "why", park.why(), 0);
            }
        }
        int[] far = {-101, 101, LEAST, MOST};
        for (int x : far) {
            Due.is(30, "x " + x, park.place(0, x, 0), OUTSIDE);
            Due.is(30, "y " + x, park.place(0, 0, x), OUTSIDE);
        }
        Due.is(30, "turbine 6", park.place(6, 0, 0), UNKNOWN);
        Due.is(30, "turbine -1", park.place(-1, 101, 0), UNKNOWN);
    }

    /** "OUTSIDE: a number that is not -1000.0 .. 1000.0": one that is no number is none. */
    private static void readingsUpTo1000() {
        for (int s = 0; s < 3; s++) {
            WindPark park = new WindPark(1);
            Parks.fit(park, 0, s, 1);
            double[] within = {-1000.0, Math.nextUp(-1000.0), -0.0, 0.0, Double.MIN_VALUE, -Double.MIN_VALUE, Double.MIN_NORMAL,
                3.9999999999999996, -4.0, 1.0 / 3.0};
            for (double reading : within) {
                Due.is(31, "read " + reading, park.read(0, s, Parks.bits(reading)), 1);
                park.run(1);
                Due.bits(31, "the vote", park.of(0, VOTE), reading);
                Due.bits(31, "the wind", park.of(0, WIND), reading);
            }
            double[] beyond = {Math.nextUp(1000.0), Math.nextDown(-1000.0), INFINITE, -INFINITE};
            for (double reading : beyond) {
                Due.is(31, "read " + reading, park.read(0, s, Parks.bits(reading)), OUTSIDE);
                park.run(1);
                Due.bits(31, "the old one", park.of(0, VOTE), 1.0 / 3.0);
            }
            long[] none = {NO_NUMBER, -1L, 0x7ff0000000000001L, 0xfff0000000000001L, Long.MAX_VALUE};
            for (long bits : none) {
                park.read(0, s, Parks.bits(1.0));
                Due.is(31, "no number", park.read(0, s, bits), 1);
                park.run(1);
                Due.is(31, "blind", park.of(0, VOTE), NO_NUMBER);
            }
        }
        double[] most = {1000.0, Math.nextDown(1000.0)};
        for (double reading : most) {
            WindPark park = Parks.fitted(1, 1.0);
            Due.is(31, "read " + reading, park.read(0, 0, Parks.bits(reading)), 1);
            park.run(1);
            Due.bits(31, "the wind", park.of(0, WIND), reading);
        }
        WindPark park = new WindPark(1);
        Due.is(31, "sensor 2", park.read(0, 2, 0), 1);
        Due.is(31, "sensor 3", park.read(0, 3, 0), UNKNOWN);
        Due.is(31, "sensor -1", park.read(0, -1, 0), UNKNOWN);
        Due.is(31, "turbine 1", park.read(1, 0, 0), UNKNOWN);
    }

    /** "a DIRECTION 0 .. 7 (dx, dy: 1 0, 1 1, 0 1, -1 1, -1 0, -1 -1, 0 -1, 1 -1)". */
    private static void directionsFrom0To7() {
        WindPark park = new WindPark(1);
        for (int direction = 0; direction < 8; direction++) {
            Due.is(32, "direction " + direction, park.wind(direction, direction % 2 == 0), 1);
            Due.is(32, "why", park.why(), 0);
        }
        Due.is(32, "direction 8", park.wind(8, true), OUTSIDE);
        Due.is(32, "direction -1", park.wind(-1, false), OUTSIDE);
        for (int direction = 0; direction < 8; direction++) {
            int[] way = WAYS[direction];
            for (int other = 0; other < 8; other++) {
                int p = 3 * (way[0] * WAYS[other][0] + way[1] * WAYS[other][1]);
                int apart = 3 * (way[0] * WAYS[other][1] - way[1] * WAYS[other][0]);
                Due.bits(34, "direction " + other + ", turbine 1 to the " + direction,
                    Parks.bits(windBehind(other, new int[] {7, -4}, new int[] {7 + 3 * way[0], -4 + 3 * way[1]})), lessened(p, apart));
            }
        }
    }

    /** "OUTSIDE: it is no number, or below 0.0." -0.0 is not below. */
    private static void boundsFromZeroOn() {
        WindPark park = new WindPark(6);
        double[] bounds = {0.0, -0.0, Double.MIN_VALUE, Double.MIN_NORMAL, 0.1, 1000.0, Double.MAX_VALUE, INFINITE};
        for (double bound : bounds) {
            Due.is(33, "bound " + bound, park.bound(5, Parks.bits(bound)), 1);
            Due.is(33, "why", park.why(), 0);
            Due.bits(36, "bound " + bound, park.of(5, BOUND), bound);
            Due.bits(36, "the other turbines'", park.of(4, BOUND), 1000.0);
        }
        long[] outside = {Parks.bits(-Double.MIN_VALUE), Parks.bits(-1000.0), Parks.bits(-INFINITE), NO_NUMBER, -1L, 0x7ff0000000000001L};
        for (long bits : outside) {
            Due.is(33, "outside", park.bound(5, bits), OUTSIDE);
            Due.bits(36, "as it was", park.of(5, BOUND), INFINITE);
        }
        Due.is(33, "turbine 6", park.bound(6, 0), UNKNOWN);
        Due.is(33, "turbine -1", park.bound(-1, -1L), UNKNOWN);
    }

    /** "So many STEPS (1 .. 40): FINDINGS that came". */
    private static void runsOf1To40() {
        int[] runs = {1, 2, 39, 40};
        for (int n : runs) {
            WindPark once = Parks.fitted(2, 12.0);
            WindPark often = Parks.fitted(2, 12.0);
            Due.is(34, "run(" + n + ")", once.run(n), 0);
            for (int i = 0; i < n; i++) {
                Due.is(34, "run(1)", often.run(1), 0);
            }
            Due.is(39, "steps", once.count(3), n);
            Due.is(39, "steps", often.count(3), n);
            for (int what = 0; what < 8; what++) {
                Due.is(34, "figure " + what + " behind " + n, once.of(1, what), often.of(1, what));
            }
        }
        WindPark park = new WindPark(1);
        int[] outside = {0, 41, -1, LEAST, MOST};
        for (int n : outside) {
            Due.is(34, "run(" + n + ")", park.run(n), OUTSIDE);
            Due.is(39, "no steps", park.count(3), 0);
        }
    }

    /** "A STEP goes through the turbines by LINE, of like ones by number." */
    private static void turbinesGoByLineThenByNumber() {
        int[][][] farms = {{{3, 1}, {1, 3}, {2, 2}, {-1, 0}, {0, -1}, {3, 1}}, {{0, 0}, {0, 0}, {0, 0}, {0, 0}, {0, 0}, {0, 0}},
            {{5, 0}, {4, 0}, {3, 0}, {2, 0}, {1, 0}, {0, 0}}, {{100, 100}, {-100, -100}, {100, -100}, {-100, 100}, {0, 100}, {100, 0}}};
        for (int[][] places : farms) {
            for (int direction = 0; direction < 8; direction++) {
                WindPark park = new WindPark(6);
                Integer[] order = new Integer[6];
                int[] way = WAYS[direction];
                for (int t = 0; t < 6; t++) {
                    Parks.fit(park, t, 0, 0);
                    park.read(t, 0, Parks.bits(5.0));
                    park.place(t, places[t][0], places[t][1]);
                    order[t] = t;
                }
                park.wind(direction, false);
                java.util.Arrays.sort(order, java.util.Comparator.comparingInt(t -> places[t][0] * way[0] + places[t][1] * way[1]));
                Due.is(34, "all fail", park.run(1), 6);
                for (int i = 0; i < 6; i++) {
                    Due.is(37, "direction " + direction + ", finding " + i, park.finding(i, 0), order[i]);
                }
            }
        }
    }

    /** A turbine with these KINDS of READINGS in its three SLOTS; the VOTE of one STEP. */
    private static long vote(double... readings) {
        WindPark park = new WindPark(1);
        for (int s = 0; s < 3; s++) {
            Parks.fit(park, 0, s, 2 - s);
        }
        read(park, readings);
        park.run(1);
        return park.of(0, VOTE);
    }

    /** "the middle one, of two the lesser (-0.0 is less than 0.0); none: no number". */
    private static void votesOfOneTwoAndThree() {
        double no = Double.NaN;
        double[][] three = {{1, 2, 3}, {1, 3, 2}, {2, 1, 3}, {2, 3, 1}, {3, 1, 2}, {3, 2, 1}};
        for (double[] one : three) {
            Due.bits(34, "the middle one", vote(one), 2.0);
            for (int s = 0; s < 3; s++) {
                double[] two = one.clone();
                two[s] = no;
                Due.bits(34, "of two the lesser", vote(two), Math.min(one[(s + 1) % 3], one[(s + 2) % 3]));
                double[] alone = {no, no, no};
                alone[s] = one[s];
                Due.bits(34, "of one that one", vote(alone), one[s]);
            }
        }
        Due.is(34, "none", vote(no, no, no), NO_NUMBER);
        double[][] zeros = {{0.0, -0.0, no, -0.0}, {-0.0, 0.0, no, -0.0}, {no, 0.0, -0.0, -0.0}, {0.0, 0.0, -0.0, 0.0}, {-0.0, 0.0, 0.0, 0.0},
            {0.0, -0.0, -0.0, -0.0}, {-0.0, -0.0, 0.0, -0.0}, {-1.0, 0.0, -0.0, -0.0}, {1.0, -0.0, 0.0, 0.0}, {-0.0, no, -1.0, -1.0},
            {3, 3, 1, 3}, {1, 3, 3, 3}, {1, 1, 3, 1}, {3, no, 3, 3}, {-3, -2, -1, -2}, {-1000, 1000, 3, 3}, {-5, -4, no, -5}};
        for (double[] one : zeros) {
            Due.bits(34, "by size", vote(one[0], one[1], one[2]), one[3]);
        }
    }

    /** "of READINGS of SLOTS 0 .. 2 that are not bare, are numbers". */
    private static void votesOfBareSlotsAndNoNumbers() {
        for (int fitted = 0; fitted < 8; fitted++) {
            for (int numbers = 0; numbers < 8; numbers++) {
                WindPark park = new WindPark(1);
                int n = 0;
                double[] votes = new double[3];
                for (int s = 0; s < 3; s++) {
                    boolean fits = (fitted >> s & 1) == 1;
                    boolean number = (numbers >> s & 1) == 1;
                    if (fits) {
                        Parks.fit(park, 0, s, s);
                    }
                    park.read(0, s, number ? Parks.bits(3.0 - s) : NO_NUMBER);
                    if (fits && number) {
                        votes[n++] = 3.0 - s;
                    }
                }
                park.run(1);
                double due = n == 0 ? Double.NaN : n == 2 ? votes[1] : n == 3 ? 2.0 : votes[0];
                Due.bits(34, "fitted " + fitted + ", numbers " + numbers, park.of(0, VOTE), due);
                Due.bits(34, "wind", park.of(0, WIND), n == 0 ? 0.0 : due);
            }
        }
    }

    private static WindPark cold(double reading) {
        WindPark park = new WindPark(1);
        Parks.fit(park, 0, 0, 0);
        park.wind(0, true);
        read(park, reading);
        return park;
    }

    private static void votes(WindPark park, String test, double due) {
        park.run(1);
        Due.bits(34, test, park.of(0, VOTE), due);
    }

    /** "or there were not two (since begun)". */
    private static void coldVotesInTheFirstTwoSteps() {
        double no = Double.NaN;
        double[] readings = {2.0, 0.0, -0.0};
        for (double reading : readings) {
            WindPark park = cold(reading);
            votes(park, "the first step", reading);
            votes(park, "the second", reading);
            votes(park, "the third", no);
            votes(park, "the fourth", no);
        }
        WindPark park = cold(2.0);
        park.wind(0, false);
        park.run(2);
        park.wind(0, true);
        votes(park, "two steps that were not cold count", no);
        park = cold(2.0);
        park.read(0, 0, NO_NUMBER);
        park.run(1);
        read(park, 2.0);
        votes(park, "the second, the first without a number", 2.0);
        votes(park, "the third: one of two was other", 2.0);
        votes(park, "the fourth", no);
    }

    /** "if it is COLD, had other BITS in one of the two STEPS before". */
    private static void coldVotesOfOtherBits() {
        double no = Double.NaN;
        // what is read ahead of each step, and the vote; a reading that is left as it was is written again
        double[][] runs = {
            {1, 1}, {1, 1}, {1, no}, {2, 2}, {1, 1}, {1, 1}, {1, no}, {no, no}, {1, 1}, {1, 1}, {1, no}, {0.0, 0.0}, {0.0, 0.0},
            {0.0, no}, {-0.0, -0.0}, {-0.0, -0.0}, {-0.0, no}, {0.0, 0.0}, {-0.0, -0.0}, {-0.0, -0.0}, {-0.0, no}, {2, 2}, {3, 3},
            {2, 2}, {3, 3}, {3, 3}, {3, no}, {no, no}, {no, no}, {3, 3}, {3, 3}, {3, no}};
        WindPark park = cold(1.0);
        for (int i = 0; i < runs.length; i++) {
            read(park, runs[i][0]);
            votes(park, "step " + (i + 1), runs[i][1]);
        }
        park.read(0, 0, Parks.bits(9.0));
        park.read(0, 0, Parks.bits(3.0));
        votes(park, "other bits between steps do not count", no);
    }

    /** "of READINGS .. that .. had other BITS": each SENSOR by its own. */
    private static void coldVotesOfEachSensor() {
        double no = Double.NaN;
        WindPark park = new WindPark(1);
        for (int s = 0; s < 3; s++) {
            Parks.fit(park, 0, s, s);
        }
        park.wind(0, true);
        read(park, 1.0, 2.0, 3.0);
        votes(park, "the first step", 2.0);
        votes(park, "the second", 2.0);
        votes(park, "the third", no);
        read(park, 1.0, 2.0, 3.5);
        votes(park, "one has other bits", 3.5);
        read(park, 1.0, 2.5, 3.5);
        votes(park, "two have", 2.5);
        read(park, 1.5, 2.5, 3.5);
        votes(park, "two have", 1.5);
        votes(park, "one has", 1.5);
        votes(park, "none has", no);
    }

    /** "(of a FAILED turbine, of a bare SLOT, too)". */
    private static void coldVotesOfFailedTurbinesAndBareSlots() {
        double no = Double.NaN;
        for (int steps = 0; steps <= 3; steps++) {
            WindPark park = cold(9.0);
            Due.is(34, "it fails for want of a drive", park.run(1), 1);
            read(park, 2.0);
            for (int i = 0; i < steps; i++) {
                park.run(1);
            }
            park.reset(0);
            votes(park, steps + " steps while it was failed", steps >= 2 ? no : 2.0);
            park = cold(3.0);
            park.run(2);
            Parks.strip(park, 0, 0);
            read(park, 2.0);
            for (int i = 0; i < steps; i++) {
                votes(park, "bare", no);
            }
            Parks.fitAgain(park, 0, 0, 23);
            votes(park, steps + " steps while it was bare", steps >= 2 ? no : 2.0);
        }
    }

    /** "is COLD or not": it is the STEP's own COLD that counts. */
    private static void coldComesAndGoes() {
        double no = Double.NaN;
        WindPark park = cold(2.0);
        park.wind(0, false);
        for (int i = 0; i < 5; i++) {
            votes(park, "not cold", 2.0);
        }
        park.wind(0, true);
        votes(park, "cold", no);
        park.wind(3, false);
        votes(park, "not cold", 2.0);
        park.wind(3, true);
        votes(park, "cold", no);
        Due.is(32, "a refused wind", park.wind(8, false), OUTSIDE);
        votes(park, "still cold", no);
    }

    /** Turbine 0 is made to MAKE; the WIND that turbine 1 has at its place, its own READING 10.0. */
    private static double windBehind(int direction, int[] first, int[] second) {
        WindPark park = Parks.fitted(2, 12.0);
        park.read(1, 0, Parks.bits(1.0));
        park.wind(direction, false);
        park.place(0, first[0], first[1]);
        park.place(1, second[0], second[1]);
        park.run(30);
        park.read(1, 0, Parks.bits(10.0));
        park.run(1);
        Due.is(34, "turbine 0 is making", park.of(0, STATE), MAKING);
        return of(park, 1, WIND);
    }

    private static double lessened(int p, int apart) {
        if (p <= 0 || Math.abs(apart) > 3 + p / 4) {
            return 10.0;
        }
        double e = 1.0 + p * 0.1;
        double d = 0.6 / (e * e);
        return 10.0 * (1.0 - Math.sqrt(0.0 + d * d));
    }

    /** "with p the LINE less its LINE, above 0, and both CROSSES not more than 3 + p / 4 (cut) apart". */
    private static void wakesNearAndFar() {
        int[] lines = {-1, 0, 1, 3, 4, 5, 7, 8, 11, 12, 40, 99, 100};
        for (int p : lines) {
            int edge = 3 + Math.max(0, p) / 4;
            int[] crosses = {0, edge - 1, edge, edge + 1, -edge + 1, -edge, -edge - 1};
            for (int apart : crosses) {
                Due.bits(34, "p " + p + ", apart " + apart, Parks.bits(windBehind(0, new int[] {0, 0}, new int[] {p, apart})),
                    lessened(p, apart));
                Due.bits(34, "the other way, p " + p + ", apart " + apart,
                    Parks.bits(windBehind(4, new int[] {0, 0}, new int[] {-p, apart})), lessened(p, apart));
            }
        }
        int[][] corners = {{-100, -100, 100, 100}, {-100, -50, 100, 49}, {-100, -50, 100, 100}, {-100, 0, 100, 97}, {-100, 0, 100, 98}};
        for (int[] c : corners) {
            int p = c[2] + c[3] - c[0] - c[1];
            int apart = c[2] - c[3] - c[0] + c[1];
            Due.bits(34, "far away, p " + p + ", apart " + apart,
                Parks.bits(windBehind(1, new int[] {c[0], c[1]}, new int[] {c[2], c[3]})), lessened(p, apart));
        }
    }

    /** "of each turbine gone through ahead of it .. that is MAKING": as the same STEP has left it. */
    private static void wakesOfThoseThatMake() {
        WindPark park = Parks.fitted(2, 12.0);
        park.read(1, 0, Parks.bits(1.0));
        park.place(1, 5, 0);
        double behind = lessened(5, 0) / 10.0;
        int[] seen = new int[5];
        for (int i = 0; i < 60; i++) {
            if (i == 35) {
                park.read(0, 0, NO_NUMBER);
            }
            park.run(1);
            int state = (int) park.of(0, STATE);
            seen[state]++;
            Due.bits(34, "the wake of one in state " + state, park.of(1, WIND), state == MAKING ? 1.0 * behind : 1.0);
        }
        Due.is(34, "states seen", Math.min(1, seen[STARTING]) + Math.min(1, seen[MAKING]) + Math.min(1, seen[STOPPING]), 3);
        park = Parks.fitted(2, 12.0);
        park.read(1, 0, Parks.bits(1.0));
        park.place(1, 5, 0);
        park.run(30);
        Due.bits(34, "making", park.of(1, WIND), 1.0 * behind);
        Parks.strip(park, 0, 4);
        Due.is(34, "it fails", park.run(1), 1);
        Due.bits(34, "one that failed in this step", park.of(1, WIND), 1.0);
        park.run(1);
        Due.bits(34, "one that was failed", park.of(1, WIND), 1.0);
    }

    /** "D = sqrt(D), 1.0 if that is above." */
    private static void wakesTakeAtMostAll() {
        for (int makers = 0; makers <= 5; makers++) {
            for (int p = 1; p <= 4; p++) {
                WindPark park = Parks.fitted(6, 12.0);
                for (int t = makers; t < 6; t++) {
                    park.read(t, 0, Parks.bits(1.0));
                }
                park.place(5, p, 0);
                park.run(30);
                double sum = 0.0;
                for (int t = 0; t < makers; t++) {
                    Due.is(34, "making", park.of(t, STATE), MAKING);
                    double e = 1.0 + p * 0.1;
                    double d = 0.6 / (e * e);
                    sum = sum + d * d;
                }
                double[] readings = {8.0, -8.0, 0.0, -0.0};
                for (double reading : readings) {
                    park.read(5, 0, Parks.bits(reading));
                    park.run(1);
                    Due.bits(34, makers + " makers, p " + p, park.of(5, WIND), reading * (1.0 - Math.min(1.0, Math.sqrt(sum))));
                }
            }
        }
    }

    /** "Without VOTE WIND is 0.0." */
    private static void blindHasNoWind() {
        WindPark park = starting();
        Due.bits(34, "wind", park.of(0, WIND), 4.0);
        park.read(0, 0, NO_NUMBER);
        park.run(1);
        Due.is(34, "no vote", park.of(0, VOTE), NO_NUMBER);
        Due.bits(34, "no wind", park.of(0, WIND), 0.0);
        park = new WindPark(1);
        park.run(1);
        Due.is(34, "a bare turbine's vote", park.of(0, VOTE), NO_NUMBER);
        Due.bits(34, "its wind", park.of(0, WIND), 0.0);
    }

    /** "WAITING: not BLIND, WIND 4.0 or more, BOUND above 0.0: STARTING." */
    private static void waitingStarts() {
        double[][] given = {{4.0, 1000.0, 1}, {Math.nextDown(4.0), 1000.0, 0}, {1000.0, 1000.0, 1}, {-4.0, 1000.0, 0}, {0.0, 1000.0, 0},
            {4.0, 0.0, 0}, {4.0, -0.0, 0}, {4.0, Double.MIN_VALUE, 1}, {4.0, INFINITE, 1}, {Double.NaN, 1000.0, 0}, {Double.NaN, 0.0, 0}};
        for (double[] one : given) {
            WindPark park = Parks.fitted(1, one[0]);
            park.bound(0, Parks.bits(one[1]));
            park.run(1);
            Due.is(34, "wind " + one[0] + ", bound " + one[1], park.of(0, STATE), (long) one[2]);
            Due.bits(34, "pitch", park.of(0, PITCH), one[2] == 1 ? 84.0 : 90.0);
        }
        WindPark park = Parks.fitted(1, 3.0);
        park.run(40);
        Due.is(34, "too little for long", park.of(0, STATE), WAITING);
        // behind a wake of p = 1 the wind is under 4.0 though the vote is not
        double wind = windBehind(0, new int[] {0, 0}, new int[] {1, 0});
        Due.is(34, "a wind of the test itself", wind > 4.0 ? 1 : 0, 1);
        park = Parks.fitted(2, 12.0);
        park.place(1, 1, 0);
        park.read(1, 0, Parks.bits(1.0));
        park.run(30);
        park.read(1, 0, Parks.bits(4.5));
        park.run(1);
        Due.is(34, "the vote is enough, the wind is not", park.of(1, STATE), WAITING);
    }

    /** "STARTING: TURNS 6.0 or more: MAKING." */
    private static void startingMakes() {
        double[][] turns = {{6.0, MAKING}, {Math.nextDown(6.0), STARTING}, {Math.nextUp(6.0), MAKING}, {5.0, STARTING}, {16.0, MAKING}};
        for (double[] one : turns) {
            WindPark park = withTurns(one[0], reading -> stepped(starting(), reading));
            Due.is(34, "still starting", park.of(0, STATE), STARTING);
            park.run(1);
            Due.is(34, "behind turns of " + one[0], park.of(0, STATE), (long) one[1]);
        }
    }

    /** "STARTING, MAKING: BLIND, or TURNS above 16.0: STOPPING." */
    private static void startingAndMakingStop() {
        double[][] turns = {{16.0, MAKING}, {Math.nextDown(16.0), MAKING}, {Math.nextUp(16.0), STOPPING}};
        for (double[] one : turns) {
            WindPark park = withTurns(one[0], reading -> stepped(starting(), reading));
            Due.is(34, "starting", park.of(0, STATE), STARTING);
            park.run(1);
            Due.is(34, "starting behind turns of " + one[0], park.of(0, STATE), (long) one[1]);
            park = withTurns(one[0], reading -> stepped(making(), reading));
            Due.is(34, "making", park.of(0, STATE), MAKING);
            park.run(1);
            Due.is(34, "making behind turns of " + one[0], park.of(0, STATE), (long) one[1]);
        }
        WindPark[] both = {starting(), making()};
        for (WindPark park : both) {
            park.read(0, 0, NO_NUMBER);
            park.run(1);
            Due.is(34, "blind", park.of(0, STATE), STOPPING);
        }
        WindPark park = making();
        read(park, 0.0);
        park.bound(0, 0L);
        park.run(1);
        Due.is(34, "neither want of wind nor of a bound stops", park.of(0, STATE), MAKING);
        park = starting();
        read(park, 0.0);
        park.bound(0, 0L);
        park.run(1);
        Due.is(34, "nor one that starts", park.of(0, STATE), STARTING);
    }

    /** "STOPPING: TURNS below 0.5: WAITING." */
    private static void stoppingWaits() {
        DoubleFunction<WindPark> slowed = reading -> stepped(stepped(starting(), Double.NaN), reading);
        // a little above what is looked for, so that the reading that does the rest is small and fine
        double coarse = leastReadingFor(0.6, slowed);
        double[][] turns = {{0.5, STOPPING}, {Math.nextDown(0.5), WAITING}, {Math.nextUp(0.5), STOPPING}, {0.25, WAITING}};
        for (double[] one : turns) {
            WindPark park = withTurns(one[0], reading -> stepped(slowed.apply(coarse), reading));
            Due.is(34, "stopping", park.of(0, STATE), STOPPING);
            park.run(1);
            Due.is(34, "behind turns of " + one[0], park.of(0, STATE), (long) one[1]);
        }
        WindPark park = slowed.apply(-1000.0);
        Due.bits(34, "no turns", park.of(0, TURNS), 0.0);
        park.run(1);
        Due.is(34, "behind no turns", park.of(0, STATE), WAITING);
    }

    /** "STATE, the first that fits": one change a STEP. */
    private static void oneStateAStep() {
        WindPark park = making();
        park.run(4);
        Parks.strip(park, 0, 4);
        park.run(1);
        Due.is(34, "failed", park.of(0, STATE), FAILED);
        Parks.fitAgain(park, 0, 4, 23);
        park.reset(0);
        Due.is(34, "with turns enough", of(park, 0, TURNS) >= 6.0 ? 1 : 0, 1);
        park.run(1);
        Due.is(34, "from waiting to starting alone", park.of(0, STATE), STARTING);
        park.run(1);
        Due.is(34, "then making", park.of(0, STATE), MAKING);
        park = stepped(stepped(starting(), Double.NaN), -1000.0);
        Due.bits(34, "no turns", park.of(0, TURNS), 0.0);
        Due.is(34, "stopping", park.of(0, STATE), STOPPING);
        read(park, 12.0);
        park.run(1);
        Due.is(34, "from stopping to waiting alone", park.of(0, STATE), WAITING);
        park.run(1);
        Due.is(34, "then starting", park.of(0, STATE), STARTING);
        park = starting();
        read(park, 1000.0);
        park.run(2);
        Due.is(34, "turns above 16.0, too, ahead of making", of(park, 0, TURNS) > 16.0 ? park.of(0, STATE) : -1, STOPPING);
    }

    /** "goal 20.0 STARTING; .. else 90.0; rate 12.0 STOPPING, else 6.0; by = Math.max(-rate, Math.min(rate, goal - PITCH))". */
    private static void pitchByItsRates() {
        WindPark park = Parks.fitted(1, 4.0);
        for (int i = 1; i <= 14; i++) {
            park.run(1);
            Due.bits(34, "starting, step " + i, park.of(0, PITCH), i < 12 ? 90.0 - 6.0 * i : 20.0);
        }
        park.read(0, 0, NO_NUMBER);
        for (int i = 1; i <= 5; i++) {
            park.run(1);
            Due.is(34, "stopping", park.of(0, STATE), STOPPING);
            Due.bits(34, "stopping, step " + i, park.of(0, PITCH), 20.0 + 12.0 * i);
        }
        park.run(1);
        Due.bits(34, "stopping, the last", park.of(0, PITCH), 90.0);
        park.run(1);
        Due.bits(34, "at home", park.of(0, PITCH), 90.0);
        park = Parks.fitted(1, 12.0);
        park.run(5);
        Parks.strip(park, 0, 3);
        park.run(1);
        Parks.fitAgain(park, 0, 3, 23);
        park.reset(0);
        read(park, 0.0);
        double pitch = of(park, 0, PITCH);
        Due.bits(34, "not at home", park.of(0, PITCH), 60.0);
        for (int i = 1; i <= 6; i++) {
            park.run(1);
            Due.is(34, "waiting", park.of(0, STATE), WAITING);
            Due.bits(34, "waiting, step " + i, park.of(0, PITCH), Math.min(90.0, pitch + 6.0 * i));
        }
    }

    /** "MAKING Math.min(90.0, (TURNS - 10.0) * 8.0), but 0.0 up to TURNS 10.0". */
    private static void pitchWhileMaking() {
        DoubleFunction<WindPark> by = reading -> stepped(makingAtPitch0(), reading);
        double[] turns = {4.0, 6.0, Math.nextDown(10.0), 10.0, Math.nextUp(10.0), 10.0625, 10.5, 10.75, 11.0, 14.0, 16.0};
        for (double one : turns) {
            WindPark park = withTurns(one, by);
            double pitch = of(park, 0, PITCH);
            Due.bits(34, "pitch ahead of it", park.of(0, PITCH), 0.0);
            park.run(1);
            Due.is(34, "making", park.of(0, STATE), MAKING);
            double goal = one <= 10.0 ? 0.0 : (one - 10.0) * 8.0;
            Due.bits(34, "pitch by turns of " + one, park.of(0, PITCH), pitch + Math.max(-6.0, Math.min(6.0, goal - pitch)));
        }
        // no fewer than 16.0 TURNS stop it, so the goal stays below 90.0
        WindPark park = withTurns(16.0, by);
        for (int i = 1; i <= 3; i++) {
            double ahead = of(park, 0, PITCH);
            double goal = Math.max(0.0, (of(park, 0, TURNS) - 10.0) * 8.0);
            park.run(1);
            boolean makes = park.of(0, STATE) == MAKING;
            double due = makes ? ahead + Math.max(-6.0, Math.min(6.0, goal - ahead)) : Math.min(90.0, ahead + 12.0);
            Due.bits(34, "and on", park.of(0, PITCH), due);
        }
    }

    private static long wear(WindPark park, int slot) {
        Parks.strip(park, 0, slot);
        long wear = park.told(23, 2);
        Parks.fitAgain(park, 0, slot, 23);
        return wear;
    }

    /** "If by is not 0.0, the PART in SLOT 3 WEARS by the LOAD (int) Math.abs(by)". */
    private static void drivesAreAskedIfPitchMoves() {
        WindPark park = new WindPark(1);
        Parks.fit(park, 0, 0, 0);
        read(park, 0.0);
        Due.is(34, "a bare slot is not asked at home", park.run(40), 0);
        Due.is(39, "no bodies", park.count(5), 0);
        park = Parks.fitted(1, 0.0);
        park.run(40);
        Due.is(39, "no bodies at home", park.count(5), 0);
        park = new WindPark(1);
        park.part(0, 0);
        Parks.fit(park, 0, 0, 0);
        Parks.fit(park, 0, 3, 4);
        read(park, 4.0);
        park.run(1);
        int[] bodies = {33, 32, 15, 14, NONE};
        for (int i = 0; i < 5; i++) {
            Due.is(21, "the bodies of a pitch", park.traced(i), bodies[i]);
        }
        Due.is(20, "by 6, of serial 2", wear(park, 3), 6 * 6 / 100 + 6 / 2);
        park.run(10);
        park.forget();
        park.run(1);
        Due.is(20, "eleven times by 6, once by 4", wear(park, 3), 11 * 3 + 2);
        Due.is(39, "asked once", park.count(5), 4);
        park.run(1);
        Due.is(39, "not at its goal", park.count(5), 4);
        park.read(0, 0, NO_NUMBER);
        park.run(1);
        Due.is(20, "stopping by 12", wear(park, 3), 35 + 12 * 12 / 100 + 12 / 2);
    }

    /** "by the LOAD (int) Math.abs(by)": TURNS above 10.0 by so much move the blades by eight times that. */
    private static void loadsOfDrivesAreCut() {
        double[][] turns = {{10.0, 0}, {Math.nextUp(10.0), 0}, {10.0625, 0}, {10.125, 1}, {10.5, 4}, {10.74, 5}, {10.75, 6}, {11.0, 6}};
        for (double[] one : turns) {
            WindPark park = withTurns(one[0], reading -> stepped(makingByAPitch(), reading));
            long ahead = wear(park, 3);
            park.forget();
            park.run(1);
            Due.is(39, "bodies of the drive and one of the blade", park.count(5), one[0] == 10.0 ? 1 : 5);
            Due.is(20, "wear by turns of " + one[0], wear(park, 3) - ahead, (long) one[1]);
        }
        int nearlyOneMore = 0;
        for (double wind = 14.0; wind <= 30.0; wind += 0.5) {
            WindPark park = stepped(stepped(makingByAPitch(), wind), wind);
            read(park, -1000.0);
            park.run(1);
            for (int i = 0; i < 4; i++) {
                double pitch = of(park, 0, PITCH);
                long ahead = wear(park, 3);
                park.run(1);
                double back = Math.min(6.0, pitch);
                Due.bits(34, "without turns back to 0.0", park.of(0, PITCH), pitch - back);
                Due.is(20, "wear by going back by " + back, wear(park, 3) - ahead, (int) back);
                nearlyOneMore += back - (int) back >= 0.75 ? 1 : 0;
            }
        }
        Due.is(34, "loads that are cut by much were seen", nearlyOneMore > 0 ? 1 : 0, 1);
    }

    /** As makingAtPitch0(), with a PITCH of SERIAL 1 in SLOT 3: up to a LOAD of 9 it WEARS by the LOAD. */
    private static WindPark makingByAPitch() {
        WindPark park = new WindPark(1);
        Parks.fit(park, 0, 0, 1);
        Parks.fit(park, 0, 3, 4);
        Parks.fit(park, 0, 4, 5);
        read(park, 12.0);
        for (int i = 0; i < 40 && park.of(0, STATE) != MAKING; i++) {
            park.run(1);
        }
        read(park, 8.0);
        park.run(3);
        Due.bits(34, "the test's own turbine has pitch 0.0", park.of(0, PITCH), 0.0);
        return park;
    }

    /** "A FAILURE ends the turbine's STEP there, it is FAILED, TORQUE 0.0; a FINDING". */
    private static void drivesThatFail() {
        WindPark park = making();
        park.run(3);
        double[] ahead = figures(park);
        Parks.strip(park, 0, 3);
        park.read(0, 0, Parks.bits(11.0));
        Due.is(34, "moves without a drive", park.run(1), 1);
        double[] behind = figures(park);
        Due.is(36, "failed", park.of(0, STATE), FAILED);
        Due.bits(36, "torque", Parks.bits(behind[TORQUE]), 0.0);
        int[] asTheyWere = {PITCH, TURNS, ENERGY, BOUND};
        for (int what : asTheyWere) {
            Due.bits(36, "figure " + what + " as it was", Parks.bits(behind[what]), ahead[what]);
        }
        Due.bits(36, "its vote", park.of(0, VOTE), 11.0);
        Due.bits(36, "its wind", park.of(0, WIND), 11.0);
        finding(park, 0, 0, 3, 1, park.count(3));

        park = new WindPark(2);
        Parks.fit(park, 1, 3, 4);
        Parks.fit(park, 1, 0, 0);
        park.read(1, 0, Parks.bits(4.0));
        Due.is(34, "a pitch of serial 0", park.run(1), 1);
        finding(park, 0, 1, 3, 6, 1);
        Due.bits(36, "its pitch", park.of(1, PITCH), 90.0);
        Due.is(39, "bodies that began", park.count(5), 4);
        Due.is(38, "a finding is no failure of the call", park.why(), 0);
    }

    private static void finding(WindPark park, int i, int... due) {
        for (int what = 0; what < 4; what++) {
            Due.is(37, "finding(" + i + ", " + what + ")", park.finding(i, what), due[what]);
            Due.is(37, "why", park.why(), 0);
        }
    }

    /** "MAKING: q = TORQUE + Math.max(-0.5, Math.min(0.5, TURNS * 0.5 - TORQUE)), 0.0 if below; else TORQUE / 2.0." */
    private static void torqueByHalves() {
        WindPark park = making();
        Due.bits(34, "the first", park.of(0, TORQUE), 0.5);
        for (int i = 0; i < 40; i++) {
            double[] ahead = figures(park);
            if (i == 20) {
                read(park, -40.0);
            }
            park.run(1);
            double by = Math.max(-0.5, Math.min(0.5, ahead[TURNS] * 0.5 - ahead[TORQUE]));
            double due = park.of(0, STATE) == MAKING ? Math.max(0.0, ahead[TORQUE] + by) : ahead[TORQUE] / 2.0;
            Due.bits(34, "torque", park.of(0, TORQUE), due);
        }
        Due.is(34, "still making", park.of(0, STATE), MAKING);
        Due.bits(34, "no turns, no torque", park.of(0, TORQUE), 0.0);
        torqueAtManyWinds();
        park = making();
        park.run(5);
        double torque = of(park, 0, TORQUE);
        park.read(0, 0, NO_NUMBER);
        for (int i = 0; i < 20; i++) {
            park.run(1);
            torque = torque / 2.0;
            Due.bits(34, "halved", park.of(0, TORQUE), torque);
        }
    }

    /** From less than 0.25 on and by less than 0.5 either way. */
    private static void torqueAtManyWinds() {
        int small = 0;
        int falling = 0;
        for (double wind = -30.0; wind <= 30.0; wind += 0.75) {
            WindPark park = making();
            park.run(6);
            read(park, wind);
            for (int i = 0; i < 12; i++) {
                double torque = of(park, 0, TORQUE);
                double by = of(park, 0, TURNS) * 0.5 - torque;
                park.run(1);
                if (park.of(0, STATE) == MAKING) {
                    double due = torque + Math.max(-0.5, Math.min(0.5, by));
                    Due.bits(34, "torque by a wind of " + wind, park.of(0, TORQUE), due);
                    small += due > 0.0 && due < 0.25 ? 1 : 0;
                    falling += by < -0.25 && by > -0.5 ? 1 : 0;
                }
            }
        }
        Due.is(34, "small ones were seen", small > 0 ? 1 : 0, 1);
        Due.is(34, "slow falls were seen", falling > 0 ? 1 : 0, 1);
    }

    /** "TURNS: Math.max(0.0, TURNS + ..)". */
    private static void turnsAreNotBelowZero() {
        WindPark park = starting();
        read(park, -1000.0);
        park.run(1);
        Due.bits(34, "wind against", park.of(0, TURNS), 0.0);
        park.run(5);
        Due.bits(34, "still none", park.of(0, TURNS), 0.0);
        read(park, 12.0);
        park.run(1);
        double pitch = of(park, 0, PITCH);
        Due.bits(34, "from none on", park.of(0, TURNS), 0.0 + 0.1 * (12.0 * (1.0 - pitch / 90.0) - 0.0 - 0.1 * 0.0));
        park = Parks.fitted(1, 3.0);
        park.run(10);
        Due.bits(34, "blades at home do not turn", park.of(0, TURNS), 0.0);
    }

    /** "If TORQUE * TURNS is above BOUND: TORQUE = BOUND / TURNS." */
    private static void torqueWithinTheBound() {
        WindPark still = new WindPark(1);
        still.bound(0, 0L);
        still.run(1);
        Due.bits(34, "nothing is not above a bound of 0.0", still.of(0, TORQUE), 0.0);
        Due.bits(34, "no energy", still.of(0, ENERGY), 0.0);
        int uneven = 0;
        for (int steps = 1; steps <= 20; steps++) {
            WindPark free = making();
            free.run(steps + 1);
            double torque = of(free, 0, TORQUE);
            double turns = of(free, 0, TURNS);
            uneven += torque * turns / turns != torque ? 1 : 0;
            torqueWithinTheBound(steps, torque, turns);
        }
        Due.is(34, "quotients that do not come out even were seen", uneven > 0 ? 1 : 0, 1);
    }

    /** What TORQUE and TURNS are behind so many STEPS and one that no bound lessens. */
    private static void torqueWithinTheBound(int steps, double torque, double turns) {
        double power = torque * turns;
        double[] bounds = {power, Math.nextUp(power), Math.nextDown(power), power / 2.0, 1.0, Double.MIN_VALUE, 0.0, -0.0, INFINITE};
        for (double bound : bounds) {
            WindPark park = making();
            park.run(steps);
            double energy = of(park, 0, ENERGY);
            park.bound(0, Parks.bits(bound));
            park.run(1);
            double due = power > bound ? bound / turns : torque;
            Due.bits(34, "turns by a bound of " + bound, park.of(0, TURNS), turns);
            Due.bits(34, "torque by a bound of " + bound, park.of(0, TORQUE), due);
            Due.bits(34, "energy by a bound of " + bound, park.of(0, ENERGY), energy + due * turns);
        }
    }

    /** "MAKING: the PART in SLOT 4 WEARS". */
    private static void bladesAreAskedWhileMaking() {
        WindPark park = Parks.fitted(1, 12.0);
        int making = 0;
        for (int i = 0; i < 40; i++) {
            if (i == 25) {
                park.read(0, 0, NO_NUMBER);
            }
            park.forget();
            park.run(1);
            boolean makes = park.of(0, STATE) == MAKING;
            int asked = 0;
            for (int body = 0; body < 4; body++) {
                asked += park.traced(body) == 31 ? 1 : 0;
            }
            making += makes ? 1 : 0;
            Due.is(34, "the blade is asked in state " + park.of(0, STATE), asked, makes ? 1 : 0);
        }
        Due.is(20, "by 12 each time", wear(park, 4), 12L * making);
        park = Parks.fitted(1, 12.0);
        Parks.strip(park, 0, 4);
        park.run(5);
        Due.is(34, "a bare slot is not asked ahead of making", park.of(0, STATE), STARTING);
    }

    /** "(NOTHING, ZERO). A FAILURE ends the turbine's STEP there": TURNS and ENERGY have come. */
    private static void bladesThatFail() {
        WindPark whole = making();
        whole.run(4);
        WindPark park = making();
        park.run(3);
        Parks.strip(park, 0, 4);
        Due.is(34, "makes without a blade", park.run(1), 1);
        Due.is(36, "failed", park.of(0, STATE), FAILED);
        Due.bits(36, "torque", park.of(0, TORQUE), 0.0);
        int[] came = {PITCH, TURNS, ENERGY, VOTE, WIND};
        for (int what : came) {
            Due.is(36, "figure " + what + " has come", park.of(0, what), whole.of(0, what));
        }
        finding(park, 0, 0, 4, 1, park.count(3));
        Due.is(37, "one finding", park.count(4), 1);
    }

    /** "by the LOAD (int) WIND (.. below 0 as it is)". */
    private static void loadsOfWind() {
        double[][] winds = {{12.0, 12}, {11.99, 11}, {0.99, 0}, {0.0, 0}, {-0.99, 0}, {-1.0, -1}, {-1.99, -1}, {-1000.0, -1000}, {1000.0, 1000}};
        for (double[] one : winds) {
            WindPark park = making();
            long ahead = wear(park, 4);
            read(park, one[0]);
            park.run(1);
            Due.is(34, "making", park.of(0, STATE), MAKING);
            Due.is(20, "wear by a wind of " + one[0], wear(park, 4) - ahead, (long) one[1]);
        }
        WindPark park = new WindPark(1);
        Parks.fit(park, 0, 0, 0);
        Parks.fit(park, 0, 3, 3);
        Parks.fit(park, 0, 4, 6);
        read(park, 12.0);
        park.run(30);
        park.forget();
        long ahead = wear(park, 4);
        park.run(1);
        Due.is(20, "a heavy blade", wear(park, 4) - ahead, 12);
    }

    /** "FAILED at the beginning: TURNS = TURNS * 0.5, and that is all." */
    private static void failedTurbinesTurnOut() {
        WindPark park = making();
        park.run(3);
        Parks.strip(park, 0, 4);
        park.run(1);
        long[] ahead = new long[13];
        for (int what = 0; what < 13; what++) {
            ahead[what] = park.of(0, what);
        }
        double turns = of(park, 0, TURNS);
        Parks.fitAgain(park, 0, 4, 23);
        read(park, 9.0);
        park.forget();
        for (int i = 0; i < 12; i++) {
            Due.is(34, "no finding", park.run(1), 0);
            turns = turns * 0.5;
            Due.bits(34, "half the turns", park.of(0, TURNS), turns);
        }
        Due.is(39, "no bodies", park.count(5), 0);
        for (int what = 0; what < 12; what++) {
            Due.is(36, "figure " + what + " as it was", park.of(0, what), what == TURNS ? Parks.bits(turns) : ahead[what]);
        }
        // down to the least double and to none; 40 steps a call
        int[] steps = {1040, 1060, 1066, 1070, 1074, 1078, 1082, 1086};
        for (int n : steps) {
            park = making();
            Parks.strip(park, 0, 4);
            park.run(1);
            double due = of(park, 0, TURNS);
            for (int left = n; left > 0; left -= 40) {
                park.run(Math.min(40, left));
            }
            for (int i = 0; i < n; i++) {
                due = due * 0.5;
            }
            Due.bits(34, "halved " + n + " times", park.of(0, TURNS), due);
        }
    }

    /** "FAILED becomes WAITING: 1. UNKNOWN; STATE: it is not FAILED." */
    private static void resetFailedOnes() {
        WindPark[] parks = {new WindPark(1), starting(), making(), stopping()};
        for (int state = 0; state < 4; state++) {
            Due.is(35, "state " + state, parks[state].of(0, STATE), state);
            Due.is(35, "not failed", parks[state].reset(0), WindPark.STATE);
            Due.is(35, "why", parks[state].why(), WindPark.STATE);
            Due.is(35, "as it was", parks[state].of(0, STATE), state);
        }
        WindPark park = making();
        Parks.strip(park, 0, 4);
        park.run(1);
        double[] ahead = figures(park);
        Due.is(35, "reset", park.reset(0), 1);
        Due.is(35, "why", park.why(), 0);
        double[] behind = figures(park);
        Due.is(35, "waiting", park.of(0, STATE), WAITING);
        for (int what = 1; what < 8; what++) {
            Due.bits(35, "figure " + what, Parks.bits(behind[what]), ahead[what]);
        }
        Due.is(35, "once more", park.reset(0), WindPark.STATE);
        Due.is(37, "the finding stays", park.count(4), 1);
        park = new WindPark(6);
        Parks.fit(park, 5, 0, 0);
        park.read(5, 0, Parks.bits(4.0));
        park.run(1);
        Due.is(35, "turbine 6", park.reset(6), UNKNOWN);
        Due.is(35, "turbine -1", park.reset(-1), UNKNOWN);
        Due.is(35, "turbine 4", park.reset(4), WindPark.STATE);
        Due.is(35, "turbine 5", park.reset(5), 1);
    }

    /** "a FINDING (40 are kept): the turbine, the SLOT, the FAILURE, the STEP's number (1, 2, ..)"; "also those that were not kept". */
    private static void findingsKept40() {
        WindPark park = new WindPark(1);
        Parks.fit(park, 0, 0, 0);
        read(park, 4.0);
        for (int i = 1; i <= 42; i++) {
            Due.is(34, "one comes", park.run(2), 1);
            Due.is(34, "why", park.why(), 0);
            Due.is(39, "kept", park.count(4), Math.min(40, i));
            if (i < 3 || i == 39 || i == 40) {
                finding(park, i - 1, 0, 3, 1, 2 * i - 1);
            }
            park.reset(0);
        }
        finding(park, 39, 0, 3, 1, 79);
        finding(park, 40, NONE, NONE, NONE, NONE);
        finding(park, 41, NONE, NONE, NONE, NONE);
        finding(park, 0, 0, 3, 1, 1);
        park = new WindPark(6);
        for (int t = 0; t < 6; t++) {
            Parks.fit(park, t, 0, 0);
            park.read(t, 0, Parks.bits(4.0));
        }
        int came = 0;
        for (int i = 0; i < 8; i++) {
            came += park.run(40);
            for (int t = 0; t < 6; t++) {
                park.reset(t);
            }
        }
        Due.is(34, "all came", came, 48);
        Due.is(39, "40 are kept", park.count(4), 40);
        finding(park, 39, 3, 3, 1, 241);
    }

    /** "NONE: there is none such. OUTSIDE." */
    private static void findingsOfNoneSuch() {
        WindPark park = new WindPark(1);
        int[] none = {LEAST, -1, 0, 1, 39, 40, MOST};
        for (int i : none) {
            for (int what = 0; what < 4; what++) {
                Due.is(37, "finding " + i, park.finding(i, what), NONE);
                Due.is(37, "that is no refusal", park.why(), 0);
            }
            Due.is(37, "what 4", park.finding(i, 4), OUTSIDE);
            Due.is(37, "why", park.why(), OUTSIDE);
            Due.is(37, "what -1", park.finding(i, -1), OUTSIDE);
        }
        Parks.fit(park, 0, 0, 0);
        read(park, 4.0);
        park.run(1);
        finding(park, 0, 0, 3, 1, 1);
        finding(park, 1, NONE, NONE, NONE, NONE);
        finding(park, -1, NONE, NONE, NONE, NONE);
    }

    /** "6 of the VOTE of the latest STEP, 7 WIND (6, 7 0 before; of a FAILED one as they were)". */
    private static void figuresBeforeAndOfFailed() {
        WindPark park = new WindPark(2);
        Due.is(36, "the vote before", park.of(1, VOTE), 0);
        Due.is(36, "the wind before", park.of(1, WIND), 0);
        Parks.fit(park, 1, 0, 0);
        park.read(1, 0, Parks.bits(7.5));
        Due.is(36, "a reading is no vote", park.of(1, VOTE), 0);
        Due.is(34, "it fails", park.run(1), 1);
        Due.bits(36, "the vote", park.of(1, VOTE), 7.5);
        Due.bits(36, "the wind", park.of(1, WIND), 7.5);
        Due.is(36, "of the blind one", park.of(0, VOTE), NO_NUMBER);
        Due.bits(36, "its wind", park.of(0, WIND), 0.0);
        park.read(1, 0, NO_NUMBER);
        park.run(3);
        Due.bits(36, "the vote of a failed one", park.of(1, VOTE), 7.5);
        Due.bits(36, "its wind", park.of(1, WIND), 7.5);
        park.reset(1);
        Due.bits(36, "still", park.of(1, VOTE), 7.5);
        park.run(1);
        Due.is(36, "then blind", park.of(1, VOTE), NO_NUMBER);
        Due.bits(36, "without wind", park.of(1, WIND), 0.0);
    }

    /** "8 + s the SERIAL of what is in SLOT s (NONE)". */
    private static void figuresOfSlots() {
        WindPark park = new WindPark(6);
        int[] kinds = {0, 1, 2, 3, 5};
        for (int slot = 4; slot >= 0; slot--) {
            Due.is(36, "bare", park.of(5, SLOTS + slot), NONE);
            Due.is(36, "that is no refusal", park.why(), 0);
            Parks.fit(park, 5, slot, kinds[slot]);
        }
        for (int slot = 0; slot < 5; slot++) {
            Due.is(36, "slot " + slot, park.of(5, SLOTS + slot), 4 - slot);
            Due.is(36, "of another turbine", park.of(4, SLOTS + slot), NONE);
        }
        Due.is(36, "12 is the last", park.of(5, 12), 0);
        Due.is(36, "13", park.of(5, 13), 0);
        Due.is(36, "why", park.why(), OUTSIDE);
        Due.is(36, "-1", park.of(5, -1), 0);
        Due.is(36, "why", park.why(), OUTSIDE);
    }

    /** "What the latest call that was not why() was refused by, or met as a FAILURE (-10 less it); 0." */
    private static void whyOfTheLatestCall() {
        WindPark park = new WindPark(1);
        Due.is(38, "before", park.why(), 0);
        int[] calls = {0, 1, 2, 3, 4, 5, 6, 7, 8, 9, 10, 11, 12, 13, 14, 15, 16, 17, 18, 19, 20, 21, 22, 23, 24, 25, 26, 27, 28, 29, 30,
            31, 32, 33, 34, 35, 36};
        for (int call : calls) {
            park = Parks.rich();
            park.clear(99);
            Due.is(38, "refused", park.why(), UNKNOWN);
            Due.is(38, "why() leaves it", park.why(), UNKNOWN);
            good(park, call);
            Due.is(38, "a call that is not refused, " + call, park.why(), 0);
            Due.is(38, "why() leaves it", park.why(), 0);
        }
        park.act(1);
        Due.is(38, "a failure of an act", park.why(), -12);
        park.act(0);
        Due.is(38, "an act without", park.why(), 0);
    }

    /** A call of the rich park that is not refused, each of the face but why(). */
    private static void good(WindPark park, int call) {
        switch (call) {
            case 0: park.row(16, 0, 0); break;
            case 1: park.grid(16, 0, -1); break;
            case 2: park.cradle(16, 0, 0); break;
            case 3: park.part(16, 0); break;
            case 4: park.set(16, 17); break;
            case 5: park.clear(16); break;
            case 6: park.holds(16); break;
            case 7: park.put(0, 0, 0, 0); break;
            case 8: park.get(0, 0, 0); break;
            case 9: park.putAt(8, 0, 0, 0); break;
            case 10: park.getAt(8, 0, 0); break;
            case 11: park.link(8, 0, 16); break;
            case 12: park.lay(9, 0, 16); break;
            case 13: park.lift(9, 1, 0, 16); break;
            case 14: park.copy(3, 0, 3, 0, 0); break;
            case 15: park.length(0, 0); break;
            case 16: park.alike(0, 1); break;
            case 17: park.ask(10, 2, 0); break;
            case 18: park.told(10, 0); break;
            case 19: park.traced(-1); break;
            case 20: park.forget(); break;
            case 21: park.seconds(5, 5, 0); break;
            case 22: park.test(5, 5, 0, 0, 0); break;
            case 23: park.step(9, 5, 0, 0, 0); break;
            case 24: park.drop(3); break;
            case 25: park.act(3); break;
            case 26: park.acted(0); break;
            case 27: park.said(-1); break;
            case 28: park.place(0, 0, 0); break;
            case 29: park.read(0, 0, -1L); break;
            case 30: park.wind(0, true); break;
            case 31: park.bound(0, 0L); break;
            case 32: park.run(1); break;
            case 33: park.reset(2); break;
            case 34: park.of(0, 8); break;
            case 35: park.finding(-1, 0); break;
            default: park.count(0);
        }
    }

    /** "0 turbines, 1 PARTS that came, 2 CASES that are not EMPTY, 3 STEPS of the farm, 4 FINDINGS kept, 5 the TRACE's BODIES." */
    private static void countsFrom0To5() {
        WindPark park = new WindPark(4);
        counted(park, 4, 0, 0, 0, 0, 0);
        for (int c = 0; c < 24; c++) {
            park.part(c, 2);
            Due.is(39, "cases", park.count(2), c + 1);
        }
        counted(park, 4, 24, 24, 0, 0, 0);
        park.part(0, 2);
        park.set(0, 1);
        counted(park, 4, 25, 24, 0, 0, 0);
        park.clear(0);
        park.clear(0);
        park.clear(23);
        counted(park, 4, 25, 22, 0, 0, 0);
        park.ask(5, 1, 0);
        park.run(40);
        park.run(1);
        counted(park, 4, 25, 22, 41, 0, 3);
        Due.is(39, "6", park.count(6), OUTSIDE);
        Due.is(39, "-1", park.count(-1), OUTSIDE);
    }

    private static void counted(WindPark park, int... due) {
        for (int what = 0; what < 6; what++) {
            Due.is(39, "count(" + what + ")", park.count(what), due[what]);
            Due.is(39, "why", park.why(), 0);
        }
    }

    /** "An object is used for at most 512 calls after it has been made": up to the last of them each answer is due. */
    private static void callsUpTo512() {
        WindPark park = new WindPark(1);
        for (int i = 1; i <= 510; i++) {
            Due.is(34, "call " + i, park.run(40), 0);
        }
        Due.is(39, "call 511", park.count(3), 510 * 40);
        Due.is(38, "call 512", park.why(), 0);
        park = new WindPark(1);
        for (int i = 1; i <= 511; i++) {
            Due.is(3, "call " + i, park.grid(i % 24, 8, 12), 8);
        }
        Due.is(39, "call 512", park.count(2), 24);
        park = new WindPark(1);
        park.part(0, 5);
        for (int i = 2; i <= 511; i++) {
            Due.is(19, "call " + i, park.ask(0, 2, 10000), 10000);
        }
        Due.is(20, "call 512", park.told(0, 2), 5100000);
    }
}
