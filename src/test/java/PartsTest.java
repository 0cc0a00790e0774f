/** Promises 19 to 24: parts and seconds. */
public final class PartsTest {
    private static final int NOTHING = -11, INDEX = -12, CAST = -14, ZERO = -16;
    private static final long NO_NUMBER = 9221120237041090560L;

    public static void main(String[] args) {
        membersOfEachKind();
        wearAddsUp();
        askedWrongly();
        toldWrongly();
        traceKeepsSixty();
        secondsOfNumbers();
        secondsAtTheEdges();
        secondsRefused();
        testsOfItems();
        Due.end("PartsTest");
    }

    private static void membersOfEachKind() {
        // kind, member, load, what is told, then the bodies; the serial of each part is 17
        long[][] asked = {
            {0, 0, 0, 40, 11}, {0, 1, 0, 400, 21, 11}, {0, 2, 9, 9, 31},
            {1, 0, 0, 30, 12}, {1, 1, 0, 300, 21, 12}, {1, 2, 9, 9, 31},
            {2, 0, 0, 50, 13, 12}, {2, 1, 0, 500, 21, 13, 12}, {2, 2, 9, 9, 31},
            {3, 0, 0, 50, 14}, {3, 1, 0, 500, 21, 14}, {3, 2, 19, 7, 32, 14}, {3, 2, 10000, 2000000, 32, 14},
            {4, 0, 0, 100, 15, 14}, {4, 1, 0, 1000, 21, 15, 14}, {4, 2, 39, 17, 33, 32, 15, 14},
            {4, 2, 10000, 1000588, 33, 32, 15, 14}, {4, 2, 0, 0, 33, 32, 15, 14},
            {5, 0, 0, 60, 16}, {5, 1, 0, 600, 21, 16}, {5, 2, 10000, 10000, 31},
            {6, 0, 0, 67, 17, 16}, {6, 1, 0, 1005, 22, 17, 16}, {6, 2, 8, 8, 31}};
        for (long[] row : asked) {
            WindPark park = new WindPark(1);
            for (int serial = 0; serial < 17; serial++) {
                park.part(0, 0);
            }
            park.part(0, (int) row[0]);
            Due.is(19, "ask kind " + row[0] + " member " + row[1], park.ask(0, (int) row[1], (int) row[2]), row[3]);
            Due.is(19, "why", park.why(), 0);
            for (int i = 4; i < row.length; i++) {
                Due.is(21, "traced of kind " + row[0] + " member " + row[1], park.traced(i - 4), row[i]);
            }
            Due.is(21, "no more", park.traced(row.length - 4), WindPark.NONE);
            Due.is(20, "kind", park.told(0, 0), row[0]);
            Due.is(20, "serial", park.told(0, 1), 17);
            Due.is(20, "wear", park.told(0, 2), row[1] == 2 ? row[3] : 0);
        }
    }

    private static void wearAddsUp() {
        WindPark park = new WindPark(1);
        park.part(0, 4);
        park.part(1, 4);
        park.set(1, 2);
        park.ask(1, 2, 30);
        park.ask(2, 2, 30);
        Due.is(19, "wear of the same part", park.told(1, 2), 2 * (9 + 30));
        Due.is(19, "serial 0", park.ask(0, 2, 30), 0);
        Due.is(19, "why", park.why(), ZERO);
        Due.is(19, "serial 0 and load 0", park.ask(0, 2, 0), 0);
        Due.is(19, "why", park.why(), ZERO);
        Due.is(19, "no wear", park.told(0, 2), 0);
        Due.is(19, "bodies that began", park.count(5), 16);
        Due.is(19, "limit of serial 0", park.ask(0, 0, 0), 100);
    }

    private static void askedWrongly() {
        WindPark park = new WindPark(1);
        park.part(0, 3);
        park.row(1, 3, 1);
        int[][] calls = {{24, 3, -1, WindPark.UNKNOWN}, {-1, 0, 0, WindPark.UNKNOWN}, {1, 3, 0, WindPark.OUTSIDE},
            {0, -1, 0, WindPark.OUTSIDE}, {0, 0, -1, WindPark.OUTSIDE}, {0, 1, 10001, WindPark.OUTSIDE},
            {0, 2, 10001, WindPark.OUTSIDE}, {1, 0, 0, CAST}, {9, 2, 0, NOTHING}};
        for (int[] call : calls) {
            Due.is(19, "ask refused", park.ask(call[0], call[1], call[2]), 0);
            Due.is(19, "why", park.why(), call[3]);
        }
        Due.is(19, "nothing traced", park.count(5), 0);
        Due.is(19, "no wear", park.told(0, 2), 0);
    }

    private static void toldWrongly() {
        WindPark park = new WindPark(1);
        park.part(0, 3);
        park.cradle(1, 3, 1);
        int[][] calls = {{24, 3, WindPark.UNKNOWN}, {-1, 0, WindPark.UNKNOWN}, {1, 3, WindPark.OUTSIDE},
            {0, -1, WindPark.OUTSIDE}, {1, 0, CAST}, {9, 2, NOTHING}};
        for (int[] call : calls) {
            Due.is(20, "told refused", park.told(call[0], call[1]), 0);
            Due.is(20, "why", park.why(), call[2]);
        }
    }

    private static void traceKeepsSixty() {
        WindPark park = new WindPark(1);
        park.part(0, 2);
        park.part(1, 0);
        for (int i = 0; i < 29; i++) {
            park.ask(0, 0, 0);
        }
        park.ask(1, 0, 0);
        Due.is(21, "58", park.traced(58), 11);
        Due.is(21, "59", park.traced(59), WindPark.NONE);
        Due.is(21, "is not refused", park.why(), 0);
        park.ask(0, 0, 0);
        Due.is(21, "the 60th is kept", park.traced(59), 13);
        Due.is(21, "the 61st is not", park.traced(60), WindPark.NONE);
        Due.is(21, "-1", park.traced(-1), WindPark.NONE);
        Due.is(21, "far", park.traced(Integer.MAX_VALUE), WindPark.NONE);
        Due.is(39, "count(5)", park.count(5), 60);
        Due.is(22, "forget", park.forget(), 60);
        Due.is(22, "nothing", park.traced(0), WindPark.NONE);
        Due.is(22, "forget again", park.forget(), 0);
        park.ask(1, 0, 0);
        Due.is(22, "begins anew", park.traced(0), 11);
        Due.is(22, "one", park.forget(), 1);
    }

    private static WindPark withRows(double... items) {
        WindPark park = new WindPark(1);
        park.row(6, 6, items.length);
        park.row(5, 5, items.length);
        for (int i = 0; i < items.length; i++) {
            park.put(6, 6, i, Double.doubleToLongBits(items[i]));
            park.put(5, 5, i, Float.floatToIntBits((float) items[i]));
        }
        return park;
    }

    private static void secondsOfNumbers() {
        WindPark park = withRows(Double.NaN, 3.5, -0.0, 0.0, Double.NaN, -2.0, 9.25);
        for (int lane = 5; lane < 7; lane++) {
            Due.bits(23, "greatest", park.seconds(lane, lane, 0), 9.25);
            Due.bits(23, "least", park.seconds(lane, lane, 1), -2.0);
            Due.bits(23, "mean", park.seconds(lane, lane, 2), 10.75 / 5);
            Due.bits(23, "middle", park.seconds(lane, lane, 3), 0.0);
            Due.is(23, "mean of longs", park.seconds(lane, lane, 4), 2);
            Due.is(23, "measured", park.seconds(lane, lane, 5), 5);
        }
        park = withRows(0.0, -0.0);
        for (int lane = 5; lane < 7; lane++) {
            Due.bits(23, "greatest zero", park.seconds(lane, lane, 0), 0.0);
            Due.bits(23, "least zero", park.seconds(lane, lane, 1), -0.0);
            Due.bits(23, "middle zero, the lesser", park.seconds(lane, lane, 3), -0.0);
            Due.bits(23, "mean zero", park.seconds(lane, lane, 2), 0.0);
        }
        park = withRows(0.1, 0.7, 0.2);
        Due.bits(23, "a float as a double", park.seconds(5, 5, 0), (double) 0.7f);
        Due.bits(23, "mean of floats", park.seconds(5, 5, 2), (0.0 + (double) 0.1f + (double) 0.7f + (double) 0.2f) / 3);
        Due.bits(23, "mean of doubles", park.seconds(6, 6, 2), (0.0 + 0.1 + 0.7 + 0.2) / 3);
        park = withRows(-7.9, 0.0);
        Due.is(23, "cut toward 0", park.seconds(6, 6, 4), -3);
    }

    private static void secondsAtTheEdges() {
        double infinite = Double.POSITIVE_INFINITY;
        WindPark park = withRows(Double.NaN, Double.NaN);
        for (int lane = 5; lane < 7; lane++) {
            for (int what = 0; what < 4; what++) {
                Due.is(23, "of none", park.seconds(lane, lane, what), NO_NUMBER);
                Due.is(23, "why", park.why(), 0);
            }
            Due.is(23, "a quotient of longs by 0", park.seconds(lane, lane, 4), 0);
            Due.is(23, "why", park.why(), ZERO);
            Due.is(23, "none", park.seconds(lane, lane, 5), 0);
        }
        park = withRows(infinite, -infinite, 1.0);
        Due.bits(23, "greatest", park.seconds(6, 6, 0), infinite);
        Due.bits(23, "least", park.seconds(5, 5, 1), -infinite);
        Due.is(23, "mean is no number", park.seconds(6, 6, 2), NO_NUMBER);
        Due.is(23, "cast of no number", park.seconds(5, 5, 4), 0);
        Due.is(23, "why", park.why(), 0);
        Due.is(23, "infinite ones are measured", park.seconds(6, 6, 5), 3);
        park = withRows(infinite, infinite);
        Due.bits(23, "infinite mean", park.seconds(6, 6, 2), infinite);
        Due.is(23, "cast of infinity", park.seconds(6, 6, 4), Long.MAX_VALUE / 2);
        park = withRows(-infinite, 5.0, -infinite);
        Due.bits(23, "infinite mean", park.seconds(5, 5, 2), -infinite);
        Due.is(23, "cast of infinity", park.seconds(5, 5, 4), Long.MIN_VALUE / 3);
        park = withRows(Double.MAX_VALUE, Double.MAX_VALUE, -infinite);
        Due.is(23, "a sum that grew infinite", park.seconds(6, 6, 2), NO_NUMBER);
        double[] alone = {Double.MAX_VALUE, -Double.MAX_VALUE, 9007199254740992.0, 9007199254740994.0, 4503599627370496.0,
            -4503599627370495.5, 1.0e200, 1.0e-200, Double.MIN_NORMAL, -2.2250738585072011e-308, Math.PI, -1.0};
        for (double number : alone) {
            park = withRows(number);
            Due.bits(23, "mean of one", park.seconds(6, 6, 2), number);
            Due.is(23, "mean of one as longs", park.seconds(6, 6, 4), (long) number);
            Due.bits(23, "of a float", park.seconds(5, 5, 2), 0.0 + (double) (float) number);
        }
        park = withRows(Double.MIN_VALUE, Double.MIN_VALUE, Double.MIN_NORMAL);
        Due.bits(23, "least of all", park.seconds(6, 6, 1), Double.MIN_VALUE);
        Due.bits(23, "small mean", park.seconds(6, 6, 2), (2 * Double.MIN_VALUE + Double.MIN_NORMAL) / 3);
        park.row(5, 5, 2);
        park.put(5, 5, 0, 1);
        park.put(5, 5, 1, 0x80000003L);
        Due.bits(23, "least float", park.seconds(5, 5, 0), Float.MIN_VALUE);
        Due.bits(23, "below 0", park.seconds(5, 5, 1), -3.0 * Float.MIN_VALUE);
        park = withRows();
        Due.is(23, "an empty row", park.seconds(6, 6, 0), NO_NUMBER);
    }

    private static void secondsRefused() {
        WindPark park = withRows(1.0, 2.0);
        park.row(3, 3, 1);
        int[][] calls = {{24, 9, 9, WindPark.UNKNOWN}, {-1, 6, 0, WindPark.UNKNOWN}, {6, 4, 0, WindPark.OUTSIDE},
            {6, 7, 0, WindPark.OUTSIDE}, {6, 6, 6, WindPark.OUTSIDE}, {6, 6, -1, WindPark.OUTSIDE},
            {6, 5, 0, CAST}, {5, 6, 0, CAST}, {3, 5, 4, CAST}, {9, 5, 4, NOTHING}};
        for (int[] call : calls) {
            Due.is(23, "seconds refused", park.seconds(call[0], call[1], call[2]), 0);
            Due.is(23, "why", park.why(), call[3]);
        }
        int[][] tests = {{24, 9, 9, 9, 12, WindPark.UNKNOWN}, {6, 4, 0, 0, 0, WindPark.OUTSIDE},
            {6, 7, 0, 0, 0, WindPark.OUTSIDE}, {6, 6, 9, 9, 12, WindPark.OUTSIDE}, {6, 6, 0, 0, -1, WindPark.OUTSIDE},
            {6, 5, 9, 0, 0, CAST}, {9, 5, 9, 0, 0, NOTHING}, {6, 6, 2, 0, 0, INDEX}, {6, 6, 0, 2, 0, INDEX},
            {6, 6, -1, 0, 11, INDEX}, {6, 6, 0, -1, 11, INDEX}};
        for (int[] t : tests) {
            Due.is(24, "test refused", park.test(t[0], t[1], t[2], t[3], t[4]), t[5]);
            Due.is(24, "why", park.why(), t[5]);
        }
    }

    private static void testsOfItems() {
        double[] items = {Double.NaN, -0.0, 0.0, 1.5, -1.5, Double.POSITIVE_INFINITY, Double.NEGATIVE_INFINITY, 1.0e-42};
        for (int i = 0; i < items.length; i++) {
            WindPark park = withRows(items);
            for (int j = 0; j < items.length; j++) {
                double a = items[i];
                double b = items[j];
                boolean[] due = {a < b, a <= b, a > b, a >= b, a == b, a != b,
                    !(a < b), !(a <= b), !(a > b), !(a >= b), !(a == b), !(a != b)};
                for (int t = 0; t < 12; t++) {
                    Due.is(24, "test " + t + " of " + a + ", " + b, park.test(6, 6, i, j, t), due[t] ? 1 : 0);
                    Due.is(24, "test of floats " + t + " of " + a + ", " + b, park.test(5, 5, i, j, t), due[t] ? 1 : 0);
                }
            }
        }
    }
}
