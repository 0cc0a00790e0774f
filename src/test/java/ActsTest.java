/** Promises 25 to 29: plans and acts. */
public final class ActsTest {
    private static final int NOTHING = -11, INDEX = -12, CAST = -14, STORE = -15, HOLD = -17, DEEP = -18, SPENT = -19;
    private static final int TAKE = 0, LAY = 1, WRITE = 2, SAY = 3, ANSWER = 4, SAY_LAST = 5, FAIL = 6, DO = 7, TRY = 8,
        FINALLY = 9, HELD = 10, WAKE = 11, FIT = 12, STRIP = 13;

    public static void main(String[] args) {
        stepsRefused();
        dropped();
        actsRefusedAndPlain();
        takingAndLaying();
        handGoesBack();
        writing();
        sayingAndAnswering();
        trying();
        finishing();
        deepPlans();
        spentActs();
        holding();
        fittingAndStripping();
        undone();
        Due.end("ActsTest");
    }

    /** A park of two turbines with these steps, each {plan, op, a, b, c}; what is left out is 0. */
    private static WindPark with(int[]... steps) {
        WindPark park = new WindPark(2);
        plan(park, steps);
        return park;
    }

    private static void plan(WindPark park, int[]... steps) {
        for (int[] given : steps) {
            int[] step = java.util.Arrays.copyOf(given, 5);
            if (park.step(step[0], step[1], step[2], step[3], step[4]) < 1) {
                Due.is(25, "a step of the test itself", park.why(), 0);
            }
        }
    }

    private static int[] s(int... step) {
        return step;
    }

    /** What acted(0) .. acted(5) tell: answer, steps, depth, said, cause, gone back. */
    private static void acted(WindPark park, String test, int... due) {
        for (int what = 0; what < due.length; what++) {
            Due.is(28, test + ": acted(" + what + ")", park.acted(what), due[what]);
        }
    }

    private static void said(WindPark park, String test, int... due) {
        for (int i = 0; i < due.length; i++) {
            Due.is(29, test + ": said(" + i + ")", park.said(i), due[i]);
        }
        Due.is(29, test + ": none more said", park.said(due.length), 0);
        Due.is(28, test + ": times", park.acted(3), due.length);
    }

    private static void stepsRefused() {
        int known = 0, unknown = WindPark.UNKNOWN, outside = WindPark.OUTSIDE;
        int[][] calls = {
            {10, 14, 0, 0, 0, unknown}, {-1, 0, 0, 0, 0, unknown}, {0, 14, 99, 99, 99, outside}, {0, -1, 0, 0, 0, outside},
            {0, TAKE, 24, 99, 99, unknown}, {0, LAY, -1, 0, 0, unknown}, {0, WRITE, 24, 0, 0, unknown},
            {0, TAKE, 23, -9, -9, known}, {0, LAY, 0, 99, 99, known}, {0, WRITE, 23, -9, -9, known},
            {0, SAY, -99, 99, 99, known}, {0, ANSWER, 99, 99, 99, known}, {0, SAY_LAST, 99, 99, 99, known},
            {0, FAIL, 0, 0, 0, outside}, {0, FAIL, 9, 0, 0, outside}, {0, FAIL, 1, 99, 99, known}, {0, FAIL, 8, 0, 0, known},
            {0, DO, 10, 0, 0, unknown}, {0, DO, 9, 99, 99, known}, {0, TRY, 10, 9, 0, unknown}, {0, TRY, 0, 9, 10, unknown},
            {0, TRY, 0, 9, 0, outside}, {0, TRY, 0, -1, 0, outside}, {0, TRY, 9, 8, 9, known}, {0, TRY, 9, 0, 9, known},
            {1, FINALLY, 10, 0, 0, unknown}, {1, FINALLY, 0, -1, 0, unknown}, {1, FINALLY, 9, 9, 99, known},
            {1, HELD, 2, 0, 0, unknown}, {1, HELD, 0, 10, 0, unknown}, {1, HELD, -1, 0, 0, unknown}, {1, HELD, 1, 9, 99, known},
            {1, WAKE, 2, 0, 0, unknown}, {1, WAKE, 1, 99, 99, known}, {1, FIT, 2, 0, 0, unknown}, {1, FIT, 0, 5, 0, unknown},
            {1, FIT, 0, -1, 0, unknown}, {1, FIT, 1, 4, 99, known}, {1, STRIP, 2, 0, 0, unknown}, {1, STRIP, 0, 5, 0, unknown},
            {1, STRIP, 1, 4, 99, known}};
        WindPark park = new WindPark(2);
        int[] sizes = new int[2];
        for (int[] c : calls) {
            int due = c[5] == known ? ++sizes[c[0]] : c[5];
            Due.is(25, "step(" + c[0] + ", " + c[1] + ", " + c[2] + ", " + c[3] + ", " + c[4] + ")",
                park.step(c[0], c[1], c[2], c[3], c[4]), due);
            Due.is(25, "why", park.why(), c[5]);
        }
        for (int i = 1; i <= 16; i++) {
            Due.is(25, "step " + i, park.step(9, SAY, i, 0, 0), i);
        }
        Due.is(25, "the 17th", park.step(9, SAY, 0, 0, 0), WindPark.ROOM);
        Due.is(25, "unknown ahead of room", park.step(9, TAKE, 24, 0, 0), unknown);
        Due.is(25, "outside ahead of room", park.step(9, FAIL, 9, 0, 0), outside);
        park.act(9);
        Due.is(25, "the plan has 16", park.acted(1), 16);
    }

    private static void dropped() {
        WindPark park = with(s(0, SAY, 1), s(0, SAY, 2), s(1, SAY, 3));
        Due.is(26, "drop", park.drop(0), 2);
        Due.is(26, "drop again", park.drop(0), 0);
        Due.is(26, "begins anew", park.step(0, SAY, 9, 0, 0), 1);
        park.act(0);
        said(park, "a new plan", 9);
        Due.is(26, "the other one", park.drop(1), 1);
        Due.is(26, "unknown", park.drop(10), WindPark.UNKNOWN);
        Due.is(26, "unknown", park.drop(-1), WindPark.UNKNOWN);
    }

    private static void actsRefusedAndPlain() {
        WindPark park = new WindPark(1);
        acted(park, "before", 0, 0, 0, 0, 0, 0);
        Due.is(29, "before", park.said(0), 0);
        Due.is(27, "an empty plan", park.act(9), 0);
        acted(park, "an empty plan", 0, 0, 1, 0, 0, 0);
        park.step(0, ANSWER, -7, 0, 0);
        Due.is(27, "answers", park.act(0), 1);
        acted(park, "answers", -7, 1, 1, 0, 0, 0);
        Due.is(27, "unknown", park.act(10), WindPark.UNKNOWN);
        Due.is(27, "unknown", park.act(-1), WindPark.UNKNOWN);
        acted(park, "still the latest", -7, 1, 1, 0, 0, 0);
        Due.is(28, "outside", park.acted(6), WindPark.OUTSIDE);
        Due.is(28, "outside", park.acted(-1), WindPark.OUTSIDE);
        Due.is(28, "why", park.why(), WindPark.OUTSIDE);
        park.drop(0);
        park.step(0, FAIL, 3, 0, 0);
        Due.is(27, "fails", park.act(0), -13);
        Due.is(38, "why", park.why(), -13);
        acted(park, "fails", 0, 1, 1, 0, 0, 0);
    }

    private static void takingAndLaying() {
        WindPark park = with(s(0, TAKE, 0), s(0, LAY, 5), s(1, LAY, 5), s(2, TAKE, 0), s(2, LAY, 1), s(3, TAKE, 9));
        park.part(0, 3);
        park.set(0, 1);
        park.set(0, 2);
        Due.is(27, "take and lay", park.act(0), 0);
        Due.is(27, "taken", park.holds(0), WindPark.NONE);
        Due.is(27, "laid", park.alike(5, 1), 1);
        acted(park, "nothing in the hand", 0, 2, 1, 0, 0, 0);
        Due.is(27, "no hand, ahead of store", park.act(1), NOTHING);
        Due.is(27, "take from empty", park.act(3), NOTHING);
        park.set(1, 0);
        Due.is(27, "lay where something is", park.act(2), STORE);
        Due.is(27, "undone", park.alike(0, 1), 1);
    }

    private static void handGoesBack() {
        WindPark park = with(s(0, TAKE, 3), s(0, TAKE, 4), s(0, LAY, 3));
        park.part(3, 0);
        park.row(4, 0, 1);
        Due.is(27, "the case holds something", park.act(0), 0);
        acted(park, "one goes back", 0, 3, 1, 0, 0, 1);
        Due.is(27, "the row was laid", park.holds(3), 0);
        Due.is(27, "the part is in the least empty one", park.holds(0), 10);
        Due.is(27, "case 4", park.holds(4), WindPark.NONE);

        park = with(s(0, TAKE, 0), s(0, TAKE, 1), s(0, TAKE, 2), s(0, LAY, 1), s(0, ANSWER, 5));
        park.row(0, 0, 1);
        park.row(1, 1, 1);
        park.row(2, 2, 1);
        Due.is(27, "answered", park.act(0), 1);
        acted(park, "the last first", 5, 5, 1, 0, 0, 2);
        // the row of shorts finds case 1 full and takes the least empty, 0; then the bytes find 0 full and take 2
        Due.is(27, "shorts", park.holds(0), 1);
        Due.is(27, "chars", park.holds(1), 2);
        Due.is(27, "bytes", park.holds(2), 0);

        park = fullBut(-1);
        plan(park, s(0, HELD, 0, 1), s(1, TAKE, 20), s(1, FIT, 0, 0), s(2, TAKE, 21), s(2, FIT, 0, 0), s(2, LAY, 21));
        Due.is(27, "a part goes into a slot", park.act(0), 0);
        acted(park, "none goes back", 0, 3, 2, 0, 0, 0);
        park.row(20, 0, 1);
        Due.is(27, "the old part is laid", park.act(2), 0);
        Due.is(27, "full again", park.count(2), 24);
        park.drop(2);
        plan(park, s(2, STRIP, 0, 0));
        Due.is(27, "no empty case", park.act(2), 0);
        acted(park, "it is gone", 0, 1, 1, 0, 0, 0);
        Due.is(27, "bare", park.of(0, 8), WindPark.NONE);
    }

    private static WindPark fullBut(int empty) {
        WindPark park = new WindPark(2);
        for (int c = 0; c < 24; c++) {
            if (c != empty) {
                park.part(c, 0);
            }
        }
        return park;
    }

    private static void writing() {
        WindPark park = with(s(0, WRITE, 0, 1, -8), s(1, WRITE, 0, 2, 1), s(2, WRITE, 0, -1, 1), s(3, WRITE, 1, 9, 1),
            s(4, WRITE, 2, 9, 1), s(5, WRITE, 3, 0, 1));
        park.row(0, 3, 2);
        park.row(1, 4, 2);
        park.grid(3, 1, 1);
        Due.is(27, "write", park.act(0), 0);
        Due.is(27, "written", park.get(0, 3, 1), -8);
        Due.is(27, "index", park.act(1), INDEX);
        Due.is(27, "index", park.act(2), INDEX);
        Due.is(27, "cast", park.act(3), CAST);
        Due.is(27, "nothing", park.act(4), NOTHING);
        Due.is(27, "cast of a grid", park.act(5), CAST);
    }

    private static void sayingAndAnswering() {
        WindPark park = with(s(0, SAY_LAST), s(0, DO, 1), s(0, SAY_LAST), s(0, DO, 2), s(0, SAY_LAST), s(0, ANSWER, 4),
            s(0, SAY, 99), s(1, ANSWER, 6), s(1, SAY, 98), s(2, SAY, 7));
        Due.is(27, "answers", park.act(0), 1);
        said(park, "last", 0, 6, 7, 6);
        acted(park, "last", 4, 8, 2, 4, 0, 0);
        Due.is(29, "-1", park.said(-1), 0);
        park.drop(0);
        plan(park, s(0, SAY_LAST));
        park.act(0);
        said(park, "last is of one act", 0);

        park = new WindPark(1);
        for (int i = 0; i < 13; i++) {
            plan(park, s(1, SAY, i + 1));
        }
        plan(park, s(0, DO, 1), s(0, DO, 1), s(0, DO, 1), s(0, DO, 1), s(0, DO, 1));
        Due.is(27, "65 times", park.act(0), 0);
        acted(park, "65 times", 0, 70, 2, 65);
        Due.is(29, "the 60th is kept", park.said(59), 8);
        Due.is(29, "the 61st is lost", park.said(60), 0);
    }

    private static void trying() {
        for (int failure = 1; failure <= 8; failure++) {
            for (int met = 0; met <= 8; met++) {
                WindPark park = with(s(0, TRY, 1, met, 2), s(0, SAY, 3), s(1, FAIL, failure), s(2, SAY, 2));
                boolean taken = met == 0 || met == failure;
                Due.is(27, "try " + met + " of " + failure, park.act(0), taken ? 0 : -10 - failure);
                said(park, "try", taken ? new int[] {2, 3} : new int[0]);
                Due.is(28, "no cause", park.acted(4), 0);
            }
        }
        WindPark park = with(s(0, TRY, 1, 0, 2), s(0, SAY, 3), s(1, ANSWER, 7), s(2, SAY, 2));
        Due.is(27, "a piece answers for the plan around", park.act(0), 1);
        said(park, "answers");
        acted(park, "answers", 7, 2, 2, 0, 0, 0);
        park = with(s(0, TRY, 1, 0, 2), s(0, SAY, 3), s(1, FAIL, 1), s(2, ANSWER, 8));
        Due.is(27, "the one in its stead answers", park.act(0), 1);
        acted(park, "in its stead", 8, 3, 2, 0, 0, 0);
        park = with(s(0, TRY, 1, 1, 2), s(1, FAIL, 1), s(2, FAIL, 2));
        Due.is(27, "the one in its stead fails", park.act(0), INDEX);
        park = with(s(0, DO, 1), s(0, SAY_LAST), s(1, TRY, 2, 0, 3), s(1, SAY, 99), s(2, ANSWER, 5));
        Due.is(27, "a piece of a plan that is done", park.act(0), 0);
        said(park, "a piece of a plan that is done", 5);
        park = with(s(0, TRY, 1, 0, 2), s(1, TAKE, 0), s(1, WRITE, 1, 0, 5), s(1, FAIL, 1), s(2, LAY, 4));
        park.part(0, 0);
        park.row(1, 3, 1);
        Due.is(27, "what was done ahead of the failure stays", park.act(0), 0);
        Due.is(27, "the part", park.holds(4), 10);
        Due.is(27, "the item", park.get(1, 3, 0), 5);
    }

    private static void finishing() {
        // how PLAN 1 ends, how PLAN 2 ends: what act answers, the answer, the cause
        int[] end = {SAY, 1}, answer = {ANSWER, 3}, other = {ANSWER, 4}, fail = {FAIL, 2}, another = {FAIL, 6};
        int[][][] cases = {
            {end, end, {0, 0, 0}}, {end, other, {1, 4, 0}}, {end, another, {-16, 0, 0}},
            {answer, end, {1, 3, 0}}, {answer, other, {1, 4, 0}}, {answer, another, {-16, 0, 0}},
            {fail, end, {INDEX, 0, 0}}, {fail, other, {1, 4, 2}}, {fail, another, {-16, 0, 2}}};
        for (int[][] one : cases) {
            WindPark park = with(s(0, FINALLY, 1, 2), s(1, one[0][0], one[0][1]), s(2, SAY, 9), s(2, one[1][0], one[1][1]));
            Due.is(27, "finally", park.act(0), one[2][0]);
            acted(park, "finally", one[2][1], 4, 2);
            Due.is(28, "finally: cause", park.acted(4), one[2][2]);
            Due.is(29, "plan 2 was done", park.said(one[0] == end ? 1 : 0), 9);
        }
        WindPark park = with(s(0, FINALLY, 1, 2), s(1, ANSWER, 3), s(2, DO, 3), s(2, SAY_LAST), s(3, ANSWER, 8));
        Due.is(27, "an answer to a DO in the final plan", park.act(0), 1);
        acted(park, "is not the act's", 3, 5, 3, 1, 0, 0);
        said(park, "but LAST", 8);
        park = with(s(0, FINALLY, 1, 2), s(1, FINALLY, 3, 4), s(3, FAIL, 1), s(4, FAIL, 2), s(2, FAIL, 3));
        Due.is(27, "the latest cause", park.act(0), -13);
        acted(park, "the latest cause", 0, 5, 3, 0, 2, 0);
        park = with(s(0, TRY, 1, 3, 3), s(1, FINALLY, 4, 2), s(4, FAIL, 1), s(2, FAIL, 3), s(3, ANSWER, 1));
        Due.is(27, "the cause stays when the failure is taken", park.act(0), 1);
        Due.is(28, "cause", park.acted(4), 1);
        park.drop(0);
        park.act(0);
        Due.is(28, "the next act has none", park.acted(4), 0);
    }

    private static void deepPlans() {
        WindPark park = new WindPark(1);
        for (int i = 0; i < 8; i++) {
            plan(park, s(i, DO, i + 1));
        }
        Due.is(27, "from the second: eight", park.act(1), 0);
        acted(park, "eight", 0, 7, 8);
        Due.is(27, "nine", park.act(0), DEEP);
        acted(park, "nine", 0, 8, 8, 0, 0, 0);
        int[][] last = {{TRY, 8, 0, 9}, {TRY, 8, 8, 9}, {FINALLY, 8, 9, 0}, {HELD, 0, 8, 0}};
        for (int[] step : last) {
            park.drop(7);
            park.step(7, step[0], step[1], step[2], step[3]);
            Due.is(27, "a ninth by " + step[0], park.act(0), DEEP);
            acted(park, "a ninth by " + step[0], 0, 8, 8, 0, step[0] == FINALLY ? 8 : 0, 0);
        }
        park.drop(6);
        plan(park, s(6, TRY, 7, 8, 9), s(9, SAY, 1));
        Due.is(27, "DEEP is met by a TRY above", park.act(0), 0);
        said(park, "DEEP is met", 1);
        park = with(s(0, FINALLY, 0, 1), s(1, SAY, 5));
        Due.is(27, "a plan that does itself", park.act(0), DEEP);
        // the innermost PLAN 0 could begin neither PLAN; those above it could
        said(park, "on every way out", 5, 5, 5, 5, 5, 5, 5);
        Due.is(28, "DEEP put aside by DEEP", park.acted(4), 8);
    }

    private static void spentActs() {
        WindPark park = new WindPark(1);
        for (int i = 0; i < 16; i++) {
            plan(park, s(1, SAY, i));
        }
        plan(park, s(0, DO, 1), s(0, DO, 1), s(0, DO, 1), s(0, DO, 1), s(0, DO, 1), s(0, DO, 2), s(0, SAY, 7));
        for (int i = 0; i < 13; i++) {
            plan(park, s(2, SAY, i));
        }
        Due.is(27, "100 steps", park.act(0), 0);
        acted(park, "100 steps", 0, 100, 2, 94);
        plan(park, s(0, SAY, 8));
        Due.is(27, "the 101st", park.act(0), SPENT);
        acted(park, "the 101st", 0, 100, 2, 94);
        plan(park, s(3, TRY, 4, 0, 5), s(4, FINALLY, 0, 5), s(5, SAY, 1), s(5, ANSWER, 1));
        Due.is(27, "neither TRY nor FINALLY", park.act(3), SPENT);
        acted(park, "neither", 0, 100, 4, 92, 0, 0);
        park.drop(0);
        plan(park, s(6, FINALLY, 7, 0), s(7, FAIL, 4), s(0, DO, 1), s(0, DO, 1), s(0, DO, 1), s(0, DO, 1), s(0, DO, 1),
            s(0, DO, 1));
        Due.is(27, "SPENT in the final plan", park.act(6), SPENT);
        Due.is(28, "puts a failure aside", park.acted(4), 4);
    }

    private static void holding() {
        WindPark park = with(s(0, HELD, 0, 1), s(0, WAKE, 0), s(1, WAKE, 0), s(1, HELD, 0, 2), s(1, WAKE, 0), s(2, WAKE, 0),
            s(2, HELD, 1, 3), s(3, WAKE, 0), s(3, WAKE, 1));
        Due.is(27, "not held behind it", park.act(0), HOLD);
        said(park, "how often", 1, 2, 2, 1, 1);
        park = with(s(0, WAKE, 1));
        Due.is(27, "not held", park.act(0), HOLD);
        park = with(s(0, TRY, 1, 0, 2), s(1, HELD, 0, 3), s(3, FAIL, 1), s(2, WAKE, 0));
        Due.is(27, "let go by a failure", park.act(0), HOLD);
        park = with(s(0, FINALLY, 1, 2), s(1, HELD, 0, 3), s(3, ANSWER, 1), s(2, WAKE, 0));
        Due.is(27, "let go by an answer", park.act(0), HOLD);
        park = with(s(0, HELD, 0, 1), s(0, SAY, 9), s(1, ANSWER, 6));
        Due.is(27, "a piece", park.act(0), 1);
        said(park, "a piece");
        Due.is(28, "its answer", park.acted(0), 6);
        park = with(s(0, HELD, 0, 1), s(1, DO, 0), s(2, WAKE, 0));
        Due.is(27, "deep", park.act(0), DEEP);
        Due.is(27, "let go between acts", park.act(2), HOLD);
    }

    private static void fittingAndStripping() {
        boolean[][] fits = {{true, false, false}, {true, false, false}, {true, false, false}, {false, true, false},
            {false, true, false}, {false, false, true}, {false, false, true}};
        for (int slot = 0; slot < 5; slot++) {
            for (int kind = 0; kind < 7; kind++) {
                WindPark park = with(s(0, HELD, 1, 1), s(1, TAKE, 0), s(1, FIT, 1, slot));
                park.part(0, kind);
                boolean due = fits[kind][Math.max(0, slot - 2)];
                Due.is(27, "fit " + kind + " in " + slot, park.act(0), due ? 0 : CAST);
                Due.is(36, "the slot", park.of(1, 8 + slot), due ? 0 : WindPark.NONE);
                Due.is(27, "the case", park.holds(0), due ? WindPark.NONE : 10);
            }
            WindPark park = with(s(0, FIT, 0, slot), s(1, STRIP, 0, slot), s(2, HELD, 0, 0), s(3, HELD, 0, 1),
                s(4, HELD, 0, 5), s(5, TAKE, 0), s(5, FIT, 0, slot));
            boolean locked = slot > 2;
            Due.is(27, "fit: hold ahead of nothing", park.act(0), locked ? HOLD : NOTHING);
            Due.is(27, "strip: hold ahead of nothing", park.act(1), locked ? HOLD : NOTHING);
            Due.is(27, "fit: no hand", park.act(2), NOTHING);
            Due.is(27, "strip: bare", park.act(3), NOTHING);
            park.row(0, 3, 1);
            Due.is(27, "fit: no part", park.act(4), CAST);
            fitTwiceAndStrip(slot);
        }
        WindPark held = with(s(0, HELD, 1, 1), s(1, TAKE, 0), s(1, FIT, 0, 3));
        held.part(0, 3);
        Due.is(27, "another turbine's rotor is held", held.act(0), HOLD);
    }

    private static void fitTwiceAndStrip(int slot) {
        int kind = slot < 3 ? 1 : slot == 3 ? 3 : 5;
        WindPark park = with(s(0, HELD, 0, 1), s(1, TAKE, 0), s(1, FIT, 0, slot), s(2, HELD, 0, 3), s(3, STRIP, 0, slot));
        park.part(0, kind);
        park.act(0);
        park.part(0, kind);
        Due.is(27, "fit in its stead", park.act(0), 0);
        Due.is(36, "the new one", park.of(0, 8 + slot), 1);
        Due.is(27, "the old one goes back to case 23", park.told(23, 1), 0);
        Due.is(27, "is there", park.why(), 0);
        Due.is(28, "one went back", park.acted(5), 1);
        Due.is(27, "strip", park.act(2), 0);
        Due.is(36, "bare", park.of(0, 8 + slot), WindPark.NONE);
        Due.is(27, "case 23 is full: the least empty one", park.told(0, 1), 1);
    }

    private static void undone() {
        WindPark park = with(s(0, HELD, 0, 1), s(1, TAKE, 0), s(1, FIT, 0, 3), s(1, TAKE, 1), s(1, LAY, 4), s(1, WRITE, 2, 0, 5),
            s(1, WRITE, 2, 0, 6), s(1, WRITE, 2, 1, 7), s(1, TAKE, 2), s(1, SAY, 3), s(1, FAIL, 6), s(2, HELD, 0, 3), s(3, TAKE, 5), s(3, FIT, 0, 3));
        park.part(5, 3);
        Due.is(27, "fit", park.act(2), 0);
        park.part(0, 3);
        park.part(1, 0);
        park.row(2, 3, 2);
        park.put(2, 3, 0, 9);
        park.set(2, 6);
        Due.is(27, "fails", park.act(0), -16);
        Due.is(27, "case 0", park.told(0, 1), 1);
        Due.is(27, "case 1", park.told(1, 1), 2);
        Due.is(27, "case 2", park.alike(2, 6), 1);
        Due.is(27, "the item", park.get(2, 3, 0), 9);
        Due.is(27, "the other item", park.get(2, 3, 1), 0);
        Due.is(27, "case 4", park.holds(4), WindPark.NONE);
        Due.is(27, "case 23", park.holds(23), WindPark.NONE);
        Due.is(36, "the slot", park.of(0, 11), 0);
        acted(park, "undone", 0, 11, 2, 1, 0, 0);
        said(park, "the log stays", 3);
    }
}
