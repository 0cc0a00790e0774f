/** Promises 19 to 24, and "2 PARTS" in the terms: each sentence that names a boundary case, one method each. */
public final class PartsEdgesTest {
    private static final int NONE = WindPark.NONE, OUTSIDE = WindPark.OUTSIDE;
    private static final int NOTHING = -11, INDEX = -12, ZERO = -16;
    private static final int CUPS = 0, VANE = 1, SONIC = 2, DRIVE = 3, PITCH = 4, BLADE = 5, HEAVY = 6;
    private static final int LIMIT = 0, COST = 1, WEARS = 2;
    private static final int EMPTY = 20;
    private static final long NO_NUMBER = 9221120237041090560L;
    private static final double INFINITE = Double.POSITIVE_INFINITY;

    public static void main(String[] args) {
        loadsFrom0To10000WithEachMember();
        heavyLimitsBySerial();
        wearsAreCut();
        quotientBySerialIsCut();
        serial0IsZero();
        wearAddsOnceIfItDoesNotFail();
        wearIsOfThePart();
        bodiesInTheirOrder();
        traceKeepsTheFirst60();
        traceIsForgotten();
        tracedOfNoneSuch();
        toldFrom0To2();
        secondsOfNone();
        secondsOfOneAndTwo();
        secondsOf30();
        zerosBySize();
        sumFromZeroOn();
        sumOfFloatsIsOfDoubles();
        sumsThatGrowTooGreat();
        quotientOfLongs();
        middleOnes();
        howManyAreMeasured();
        rowsAreAsTheyWere();
        testsAsTheLanguageHasThem();
        testsDenied();
        itemsOfTests();
        Due.end("PartsEdgesTest");
    }

    /** A park whose CASE 0 holds a PART of this KIND and SERIAL. */
    private static WindPark with(int kind, int serial) {
        WindPark park = new WindPark(1);
        for (int i = 0; i < serial; i++) {
            park.part(0, CUPS);
        }
        Due.is(5, "the serial", park.part(0, kind), serial);
        return park;
    }

    private static void asked(WindPark park, int member, int load, long due) {
        Due.is(19, "member " + member + " by " + load, park.ask(0, member, load), due);
        Due.is(38, "why", park.why(), 0);
    }

    private static void traced(WindPark park, int... bodies) {
        for (int i = 0; i < bodies.length; i++) {
            Due.is(21, "body " + i, park.traced(i), bodies[i]);
        }
        Due.is(21, "no more", park.traced(bodies.length), NONE);
        Due.is(39, "so many", park.count(5), bodies.length);
        Due.is(22, "forgotten", park.forget(), bodies.length);
    }

    /** "2 WEARS by a LOAD 0 .. 10000 .. (the LOAD is looked at with each MEMBER)". */
    private static void loadsFrom0To10000WithEachMember() {
        int[] loads = {0, 1, 9999, 10000};
        long[] limits = {40, 30, 50, 50, 100, 60, 66};
        for (int kind = 0; kind < 7; kind++) {
            WindPark park = with(kind, 6);
            for (int load : loads) {
                asked(park, LIMIT, load, limits[kind]);
                asked(park, COST, load, kind == HEAVY ? 990 : 10 * limits[kind]);
                boolean drive = kind == DRIVE || kind == PITCH;
                long due = drive ? (long) load * load / limits[kind] + (kind == PITCH ? load / 6 : 0) : load;
                asked(park, WEARS, load, due);
            }
            long wear = park.told(0, 2);
            int bodies = park.count(5);
            int[] outside = {-1, 10001};
            for (int member = 0; member < 3; member++) {
                for (int load : outside) {
                    Due.is(19, "load " + load, park.ask(0, member, load), 0);
                    Due.is(19, "why", park.why(), OUTSIDE);
                }
            }
            Due.is(19, "no wear of it", park.told(0, 2), wear);
            Due.is(19, "no bodies of it", park.count(5), bodies);
        }
    }

    /** "17 HEAVY: what 16 tells, and SERIAL % 10" and "22 HEAVY: 15 times LIMIT". */
    private static void heavyLimitsBySerial() {
        int[][] serials = {{0, 60}, {1, 61}, {9, 69}, {10, 60}, {11, 61}, {19, 69}, {20, 60}, {59, 69}};
        for (int[] one : serials) {
            WindPark park = with(HEAVY, one[0]);
            asked(park, LIMIT, 0, one[1]);
            asked(park, COST, 0, 15 * one[1]);
            asked(park, WEARS, 7, 7);
            traced(park, 17, 16, 22, 17, 16, 31);
        }
        WindPark park = with(BLADE, 9);
        asked(park, LIMIT, 0, 60);
        asked(park, COST, 0, 600);
    }

    /** "32 DRIVE: LOAD * LOAD / LIMIT, cut". */
    private static void wearsAreCut() {
        int[][] drives = {{0, 0}, {1, 0}, {7, 0}, {8, 1}, {9, 1}, {10, 2}, {9999, 1999600}, {10000, 2000000}};
        for (int[] one : drives) {
            asked(with(DRIVE, 0), WEARS, one[0], one[1]);
        }
        // of a PITCH the LIMIT is 100, and LOAD / 30 comes to it
        int[][] pitches = {{0, 0}, {9, 0}, {10, 1}, {14, 1}, {15, 2}, {29, 8}, {30, 10}, {9999, 1000133}, {10000, 1000333}};
        for (int[] one : pitches) {
            asked(with(PITCH, 30), WEARS, one[0], one[1]);
        }
    }

    /** "33 PITCH: what 32 tells, and LOAD / SERIAL". */
    private static void quotientBySerialIsCut() {
        int[][] given = {{1, 9, 9}, {1, 10000, 1010000}, {2, 9, 4}, {9, 8, 0}, {9, 9, 1}, {59, 58, 33}, {59, 59, 35}, {59, 10000, 1000169}};
        for (int[] one : given) {
            WindPark park = with(PITCH, one[0]);
            asked(park, WEARS, one[1], one[2]);
            Due.is(20, "wear", park.told(0, 2), one[2]);
        }
    }

    /** "(ZERO)": 33 asks "32 ahead of its quotient", and a WEARS that fails adds nothing. */
    private static void serial0IsZero() {
        int[] loads = {0, 1, 12, 10000};
        WindPark park = with(PITCH, 0);
        for (int load : loads) {
            Due.is(19, "of serial 0 by " + load, park.ask(0, WEARS, load), 0);
            Due.is(19, "why", park.why(), ZERO);
            Due.is(20, "no wear", park.told(0, 2), 0);
            traced(park, 33, 32, 15, 14);
        }
        asked(park, LIMIT, 0, 100);
        asked(park, COST, 0, 1000);
        asked(with(DRIVE, 0), WEARS, 10, 2);
        asked(with(CUPS, 0), WEARS, 10, 10);
        park = with(PITCH, 1);
        asked(park, WEARS, 0, 0);
        asked(park, WEARS, 1, 1);
    }

    /** "Each WEARS that is asked and does not fail adds what it tells, once". */
    private static void wearAddsOnceIfItDoesNotFail() {
        long[] by12 = {12, 12, 12, 2, 1 + 3, 12, 12};
        for (int kind = 0; kind < 7; kind++) {
            WindPark park = with(kind, 4);
            for (int time = 1; time <= 3; time++) {
                asked(park, LIMIT, 12, park.ask(0, LIMIT, 0));
                asked(park, COST, 12, park.ask(0, COST, 0));
                asked(park, WEARS, 12, by12[kind]);
                Due.is(20, "wear of kind " + kind, park.told(0, 2), time * by12[kind]);
            }
        }
        WindPark park = with(DRIVE, 0);
        for (int time = 1; time <= 200; time++) {
            park.ask(0, WEARS, 10000);
        }
        Due.is(20, "a long", park.told(0, 2), 400000000L);
        for (int time = 1; time <= 200; time++) {
            park.ask(0, WEARS, 10000);
        }
        Due.is(20, "a long", park.told(0, 2), 800000000L);
    }

    /** WEAR is of the PART, whichever CASE or CRADLE holds it. */
    private static void wearIsOfThePart() {
        WindPark park = with(SONIC, 0);
        park.part(1, SONIC);
        park.set(0, 2);
        park.cradle(3, VANE, 1);
        park.lay(3, 0, 0);
        park.ask(2, WEARS, 5);
        park.clear(0);
        park.clear(2);
        park.lift(3, 0, SONIC, 4);
        Due.is(20, "the one", park.told(4, 2), 5);
        Due.is(20, "the other", park.told(1, 2), 0);
    }

    /** "(13, 15, 17, 33 ask what they name behind their own beginning, 21, 22, 32 LIMIT as the PART has it ..)". */
    private static void bodiesInTheirOrder() {
        int[][][] bodies = {
            {{11}, {21, 11}, {31}}, {{12}, {21, 12}, {31}}, {{13, 12}, {21, 13, 12}, {31}}, {{14}, {21, 14}, {32, 14}},
            {{15, 14}, {21, 15, 14}, {33, 32, 15, 14}}, {{16}, {21, 16}, {31}}, {{17, 16}, {22, 17, 16}, {31}}};
        for (int kind = 0; kind < 7; kind++) {
            for (int member = 0; member < 3; member++) {
                WindPark park = with(kind, 8);
                park.ask(0, member, 9);
                traced(park, bodies[kind][member]);
            }
        }
    }

    /** "(the first 60 since it was forgotten)". */
    private static void traceKeepsTheFirst60() {
        for (int ahead = 56; ahead <= 61; ahead++) {
            WindPark park = with(PITCH, 1);
            park.part(1, BLADE);
            for (int i = 0; i < ahead; i++) {
                park.ask(1, LIMIT, 0);
                Due.is(39, "bodies", park.count(5), Math.min(60, i + 1));
            }
            Due.is(19, "asked when it is full", park.ask(0, WEARS, 10), 11);
            int[] bodies = {33, 32, 15, 14};
            for (int i = 0; i < 4; i++) {
                Due.is(21, "body " + (ahead + i), park.traced(ahead + i), ahead + i < 60 ? bodies[i] : NONE);
            }
            Due.is(21, "the 60th", park.traced(59), ahead < 60 ? bodies[59 - ahead] : 16);
            Due.is(21, "no 61st", park.traced(60), NONE);
            Due.is(39, "bodies", park.count(5), 60);
            Due.is(22, "forget", park.forget(), 60);
            Due.is(39, "none", park.count(5), 0);
            asked(park, LIMIT, 0, 100);
            traced(park, 15, 14);
        }
    }

    /** "The TRACE has nothing: how many it had." */
    private static void traceIsForgotten() {
        WindPark park = with(SONIC, 0);
        Due.is(22, "none at first", park.forget(), 0);
        Due.is(22, "why", park.why(), 0);
        for (int n = 1; n <= 3; n++) {
            for (int i = 0; i < n; i++) {
                park.ask(0, LIMIT, 0);
            }
            Due.is(22, "forget", park.forget(), 2 * n);
            Due.is(21, "nothing", park.traced(0), NONE);
            Due.is(22, "forget again", park.forget(), 0);
        }
    }

    /** "BODY i of the TRACE; NONE." */
    private static void tracedOfNoneSuch() {
        WindPark park = with(SONIC, 0);
        Due.is(21, "of none", park.traced(0), NONE);
        park.ask(0, LIMIT, 0);
        int[][] given = {{Integer.MIN_VALUE, NONE}, {-1, NONE}, {0, 13}, {1, 12}, {2, NONE}, {59, NONE}, {60, NONE},
            {Integer.MAX_VALUE, NONE}};
        for (int[] one : given) {
            Due.is(21, "body " + one[0], park.traced(one[0]), one[1]);
            Due.is(21, "that is no refusal", park.why(), 0);
        }
    }

    /** "Of a PART: 0 KIND, 1 SERIAL, 2 WEAR." */
    private static void toldFrom0To2() {
        WindPark park = with(HEAVY, 3);
        park.ask(0, WEARS, 45);
        long[] due = {HEAVY, 3, 45};
        for (int what = 0; what < 3; what++) {
            Due.is(20, "told " + what, park.told(0, what), due[what]);
            Due.is(20, "why", park.why(), 0);
        }
        Due.is(20, "told 3", park.told(0, 3), 0);
        Due.is(20, "why", park.why(), OUTSIDE);
        Due.is(20, "told -1", park.told(0, -1), 0);
        Due.is(20, "why", park.why(), OUTSIDE);
        Due.is(20, "of an empty case", park.told(EMPTY, 0), 0);
        Due.is(20, "why", park.why(), NOTHING);
    }

    /** A park with these doubles in a ROW in CASE 6 and as floats in CASE 5. */
    private static WindPark rows(double... items) {
        WindPark park = new WindPark(1);
        park.row(6, 6, items.length);
        park.row(5, 5, items.length);
        for (int i = 0; i < items.length; i++) {
            park.put(6, 6, i, Double.doubleToLongBits(items[i]));
            park.put(5, 5, i, Float.floatToIntBits((float) items[i]));
        }
        return park;
    }

    private static void told(WindPark park, int lane, int what, long due) {
        Due.is(23, "seconds of lane " + lane + ", " + what, park.seconds(lane, lane, what), due);
        Due.is(23, "why", park.why(), 0);
    }

    /** Greatest, least, mean and middle one as doubles, in both LANES. */
    private static void told(WindPark park, double greatest, double least, double mean, double middle) {
        double[] due = {greatest, least, mean, middle};
        for (int lane = 5; lane < 7; lane++) {
            for (int what = 0; what < 4; what++) {
                told(park, lane, what, Double.doubleToLongBits(due[what]));
            }
        }
    }

    /** "of none no number", "a quotient of longs (ZERO)". */
    private static void secondsOfNone() {
        double no = Double.NaN;
        double[][] given = {{}, {no}, {no, no, no}};
        for (double[] items : given) {
            WindPark park = rows(items);
            told(park, no, no, no, no);
            for (int lane = 5; lane < 7; lane++) {
                for (int what = 0; what < 4; what++) {
                    told(park, lane, what, NO_NUMBER);
                }
                Due.is(23, "a quotient by none", park.seconds(lane, lane, 4), 0);
                Due.is(23, "why", park.why(), ZERO);
                told(park, lane, 5, 0);
            }
        }
    }

    /** "items that are numbers being MEASURED": one that is none is not looked at, wherever it is. */
    private static void secondsOfOneAndTwo() {
        double no = Double.NaN;
        told(rows(-7.5), -7.5, -7.5, -7.5, -7.5);
        told(rows(no, -7.5), -7.5, -7.5, -7.5, -7.5);
        told(rows(-7.5, no), -7.5, -7.5, -7.5, -7.5);
        told(rows(no, -7.5, no), -7.5, -7.5, -7.5, -7.5);
        told(rows(3.0, 1.0), 3.0, 1.0, 2.0, 1.0);
        told(rows(1.0, 3.0), 3.0, 1.0, 2.0, 1.0);
        told(rows(1.0, no, 3.0), 3.0, 1.0, 2.0, 1.0);
        told(rows(-3.0, -1.0), -1.0, -3.0, -2.0, -3.0);
        told(rows(INFINITE), INFINITE, INFINITE, INFINITE, INFINITE);
        told(rows(-INFINITE, 5.0), 5.0, -INFINITE, -INFINITE, -INFINITE);
    }

    /** Of a ROW that is full (30 items), and of one less. */
    private static void secondsOf30() {
        double[] items = new double[30];
        for (int i = 0; i < 30; i++) {
            items[i] = (i * 7 + 3) % 30 - 10;
        }
        WindPark park = rows(items);
        told(park, 19.0, -10.0, 135.0 / 30, 4.0);
        told(park, 5, 5, 30);
        told(park, 6, 5, 30);
        told(park, 5, 4, 4);
        told(park, 6, 4, 4);
        park.put(6, 6, 29, -1L);
        told(park, 6, 5, 29);
        park.put(6, 6, 0, -1L);
        told(park, 6, 5, 28);
    }

    /** "-0.0 is less than 0.0", "-0.0 and 0.0 as in 0". */
    private static void zerosBySize() {
        told(rows(0.0, -0.0), 0.0, -0.0, 0.0, -0.0);
        told(rows(-0.0, 0.0), 0.0, -0.0, 0.0, -0.0);
        told(rows(-0.0, -0.0), -0.0, -0.0, 0.0, -0.0);
        told(rows(0.0, 0.0), 0.0, 0.0, 0.0, 0.0);
        told(rows(0.0, -0.0, 0.0), 0.0, -0.0, 0.0, 0.0);
        told(rows(-0.0, 0.0, -0.0), 0.0, -0.0, 0.0, -0.0);
        told(rows(0.0, -0.0, -1.0), 0.0, -1.0, -1.0 / 3, -0.0);
        told(rows(0.0, -0.0, 1.0), 1.0, -0.0, 1.0 / 3, 0.0);
        double least = Float.MIN_VALUE;
        told(rows(-least, -0.0, 0.0, least), least, -least, 0.0, -0.0);
    }

    /** "of their sum from 0.0 on by how many they are": of -0.0 alone it is 0.0, and it goes in the order of the items. */
    private static void sumFromZeroOn() {
        told(rows(-0.0), -0.0, -0.0, 0.0, -0.0);
        WindPark park = rows(1.0e16, 1.0, -1.0e16);
        told(park, 6, 2, Double.doubleToLongBits((0.0 + 1.0e16 + 1.0 - 1.0e16) / 3));
        park = rows(1.0e16, -1.0e16, 1.0);
        told(park, 6, 2, Double.doubleToLongBits((0.0 + 1.0e16 - 1.0e16 + 1.0) / 3));
        park = rows(0.1, 0.2, 0.3);
        told(park, 6, 2, Double.doubleToLongBits((0.1 + 0.2 + 0.3) / 3));
    }

    /** "(as doubles ..)": floats are summed as doubles. */
    private static void sumOfFloatsIsOfDoubles() {
        float most = Float.MAX_VALUE;
        WindPark park = rows(most, most, most);
        told(park, 5, 2, Double.doubleToLongBits(((double) most + (double) most + (double) most) / 3));
        park = rows(0.1, 0.7);
        told(park, 5, 2, Double.doubleToLongBits(((double) 0.1f + (double) 0.7f) / 2));
        told(park, 5, 0, Double.doubleToLongBits((double) 0.7f));
        told(park, 5, 1, Double.doubleToLongBits((double) 0.1f));
        park = rows(16777216.0, 1.0, 1.0);
        told(park, 5, 4, 16777218L / 3);
        told(park, 5, 2, Double.doubleToLongBits(16777218.0 / 3));
        park.row(5, 5, 2);
        park.put(5, 5, 0, 1);
        park.put(5, 5, 1, 0x80000001L);
        told(park, 5, 0, Double.doubleToLongBits(Float.MIN_VALUE));
        told(park, 5, 1, Double.doubleToLongBits(-Float.MIN_VALUE));
        told(park, 5, 2, 0L);
    }

    /** Sums and casts "as the language does": beyond the greatest double, and of unlike infinities. */
    private static void sumsThatGrowTooGreat() {
        double most = Double.MAX_VALUE;
        WindPark park = rows(most, most);
        told(park, 6, 2, Double.doubleToLongBits(INFINITE));
        told(park, 6, 4, Long.MAX_VALUE / 2);
        park = rows(-most, -most, -most);
        told(park, 6, 2, Double.doubleToLongBits(-INFINITE));
        told(park, 6, 4, Long.MIN_VALUE / 3);
        park = rows(INFINITE, -INFINITE);
        for (int lane = 5; lane < 7; lane++) {
            told(park, lane, 0, Double.doubleToLongBits(INFINITE));
            told(park, lane, 1, Double.doubleToLongBits(-INFINITE));
            told(park, lane, 2, NO_NUMBER);
            told(park, lane, 3, Double.doubleToLongBits(-INFINITE));
            told(park, lane, 4, 0);
            told(park, lane, 5, 2);
        }
        park = rows(most, most, -INFINITE);
        told(park, 6, 2, NO_NUMBER);
        told(park, 6, 4, 0);
        park = rows(-INFINITE, 1.0, INFINITE, 1.0);
        told(park, 6, 2, NO_NUMBER);
    }

    /** "4 their sum, cast to a long, by how many they are, a quotient of longs". */
    private static void quotientOfLongs() {
        double[][] given = {{0.9, 0.9, 0}, {-0.9, -0.9, 0}, {1.9, 1.9, 1}, {-1.9, -1.9, -1}, {2.5, 2.5, 2}, {-2.5, -2.5, -2}, {5.0, 0.0, 2},
            {-5.0, 0.0, -2}, {1.0, -1.0, 0}, {0.75, 1.25, 1}, {-0.0, -0.0, 0}};
        for (double[] one : given) {
            WindPark park = rows(one[0], one[1]);
            told(park, 6, 4, (long) one[2]);
            told(park, 5, 4, (long) ((double) (float) one[0] + (double) (float) one[1]) / 2);
        }
        double[] alone = {9.2e18, 9.3e18, -9.2e18, -9.3e18, 1.0e300, -1.0e300, 4503599627370496.5, 0.99999999, 9007199254740993.0};
        for (double number : alone) {
            told(rows(number), 6, 4, (long) number);
        }
    }

    /** "3 of the middle one by size (of two the lesser ..)". */
    private static void middleOnes() {
        for (int n = 1; n <= 30; n++) {
            double[] items = new double[n];
            for (int i = 0; i < n; i++) {
                items[i] = i % 2 == 0 ? i : n * 2 - i;
            }
            double[] sorted = items.clone();
            java.util.Arrays.sort(sorted);
            WindPark park = rows(items);
            told(park, 6, 3, Double.doubleToLongBits(sorted[(n - 1) / 2]));
            told(park, 5, 3, Double.doubleToLongBits(sorted[(n - 1) / 2]));
        }
        told(rows(2.0, 2.0, 2.0, 9.0), 9.0, 2.0, 15.0 / 4, 2.0);
        told(rows(9.0, 9.0, 2.0, 2.0), 9.0, 2.0, 22.0 / 4, 2.0);
    }

    /** "5 how many are MEASURED". */
    private static void howManyAreMeasured() {
        for (int lane = 5; lane < 7; lane++) {
            WindPark park = new WindPark(1);
            park.row(0, lane, 30);
            measured(park, lane, 30);
            for (int i = 0; i < 30; i++) {
                park.put(0, lane, i, -1L);
                measured(park, lane, 29 - i);
            }
            long[] numbers = lane == 5 ? new long[] {0x7f800000L, 0xff800000L, 0x80000000L, 1L, 0x7f7fffffL}
                : new long[] {0x7ff0000000000000L, 0xfff0000000000000L, 1L << 63, 1L, 0x7fefffffffffffffL};
            for (int i = 0; i < numbers.length; i++) {
                park.put(0, lane, i, numbers[i]);
                measured(park, lane, i + 1);
            }
            park.row(0, lane, 0);
            measured(park, lane, 0);
        }
    }

    private static void measured(WindPark park, int lane, int due) {
        Due.is(23, "measured", park.seconds(0, lane, 5), due);
        Due.is(23, "why", park.why(), 0);
    }

    /** What is told of a ROW leaves its items in their order. */
    private static void rowsAreAsTheyWere() {
        double[] items = {3.0, Double.NaN, -1.0, 2.0, -0.0, 0.0};
        WindPark park = rows(items);
        for (int what = 0; what < 6; what++) {
            park.seconds(5, 5, what);
            park.seconds(6, 6, what);
            for (int i = 0; i < items.length; i++) {
                Due.bits(23, "item " + i, park.get(6, 6, i), items[i]);
                Due.is(23, "item " + i, park.get(5, 5, i), Float.floatToIntBits((float) items[i]));
            }
        }
    }

    private static final double[] TESTED = {Double.NaN, -INFINITE, -1.5, -0.0, 0.0, 1.0e-42, 1.5, INFINITE};

    /** "0 below, 1 not above (below or the same), 2 above, 3 above or the same, 4 the same, 5 not the same". */
    private static void testsAsTheLanguageHasThem() {
        for (int i = 0; i < TESTED.length; i++) {
            WindPark park = rows(TESTED);
            for (int j = 0; j < TESTED.length; j++) {
                double a = TESTED[i];
                double b = TESTED[j];
                boolean[] due = {a < b, a <= b, a > b, a >= b, a == b, a != b};
                for (int t = 0; t < 6; t++) {
                    Due.is(24, "test " + t + " of " + a + ", " + b, park.test(6, 6, i, j, t), due[t] ? 1 : 0);
                    Due.is(24, "test " + t + " of floats " + a + ", " + b, park.test(5, 5, i, j, t), due[t] ? 1 : 0);
                }
            }
        }
    }

    /** "6 .. 11 those denied": of one that is no number, too. */
    private static void testsDenied() {
        for (int i = 0; i < TESTED.length; i++) {
            WindPark park = rows(TESTED);
            for (int j = 0; j < TESTED.length; j++) {
                double a = TESTED[i];
                double b = TESTED[j];
                boolean[] due = {!(a < b), !(a <= b), !(a > b), !(a >= b), !(a == b), !(a != b)};
                for (int t = 0; t < 6; t++) {
                    Due.is(24, "test " + t + " denied of " + a + ", " + b, park.test(6, 6, i, j, 6 + t), due[t] ? 1 : 0);
                    Due.is(24, "why", park.why(), 0);
                }
            }
        }
    }

    /** "INDEX (i, j)": the first and the last item of 1 and of 30. */
    private static void itemsOfTests() {
        for (int lane = 5; lane < 7; lane++) {
            WindPark park = new WindPark(1);
            int[] lengths = {1, 30};
            for (int n : lengths) {
                park.row(0, lane, n);
                Due.is(24, "the last", park.test(0, lane, n - 1, n - 1, 4), 1);
                Due.is(24, "the first and the last", park.test(0, lane, 0, n - 1, 4), 1);
                Due.is(24, "i behind it", park.test(0, lane, n, 0, 4), INDEX);
                Due.is(24, "j behind it", park.test(0, lane, 0, n, 4), INDEX);
                Due.is(24, "i ahead of all", park.test(0, lane, -1, 0, 4), INDEX);
                Due.is(24, "j ahead of all", park.test(0, lane, 0, -1, 4), INDEX);
            }
            park.row(0, lane, 0);
            Due.is(24, "of none", park.test(0, lane, 0, 0, 4), INDEX);
            Due.is(24, "denied of none", park.test(0, lane, 0, 0, 10), INDEX);
        }
    }
}
