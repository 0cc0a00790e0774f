/** Promises 25 to 29, and "3 PLANS" in the terms: each sentence that names a boundary case, one method each. */
public final class ActsEdgesTest {
    private static final int NONE = WindPark.NONE, ROOM = WindPark.ROOM;
    private static final int NOTHING = -11, INDEX = -12, SIZE = -13, CAST = -14, STORE = -15, ZERO = -16, HOLD = -17, DEEP = -18,
        SPENT = -19;
    private static final int MOST = Integer.MAX_VALUE, LEAST = Integer.MIN_VALUE;

    public static void main(String[] args) {
        plansGoFrom0To9();
        plansHave16StepsAtMost();
        stepsAtTheEdgesOfTheirNames();
        numbersThatAStepDoesNotName();
        dropTellsHowManyItHad();
        actsBeginAtStep0AndEndAtAnAnswer();
        emptyPlansComeToTheirEnd();
        logKeeps60();
        lastIs0AtFirst();
        takesOfWhatIsThere();
        laysOfTheTop();
        writesAtTheEdges();
        writesOfWhatIsNoRowOfInts();
        answersAndSayingsOfAnyNumber();
        failuresFrom1To8();
        doneByDo();
        triesOfEachFailure();
        triesAreNotUndone();
        finallyHoweverItEnded();
        finallyIfItCouldNotBegin();
        holdsHoweverTheyEnd();
        wakesSayHowOften();
        fitsOfEachKind();
        fitsOfWhatIsNoPart();
        fitsInOrderOfFailures();
        fitsInSteadOfAnother();
        stripsInOrderOfFailures();
        stripsToCase23();
        piecesAnswerForThePlanAround();
        causeIsTheLatest();
        deepIsTheNinth();
        deepByEachStep();
        spentIsThe101st();
        spentIsNeverMet();
        spentInTheFinalPlan();
        handGoesBackTheLastFirst();
        takenAgainGoesBackThere();
        handIsOfOneAct();
        handGoesToTheLeastEmpty();
        handIsGoneIfNoneIsEmpty();
        all24CasesOnTheHand();
        failuresUndoCases();
        failuresUndoItems();
        failuresUndoTheirOwnWritesAlone();
        failuresUndoSlots();
        failuresLeaveTheLog();
        actedBeforeAndOfTheLatest();
        saidOfNoneSuch();
        Due.end("ActsEdgesTest");
    }

    /** "PLANS 0 .. 9". */
    private static void plansGoFrom0To9() {
        WindPark park = new WindPark(1);
        for (int plan = 0; plan < 10; plan++) {
            Due.is(25, "plan " + plan, park.step(plan, 3, 100 + plan, 0, 0), 1);
        }
        for (int plan = 0; plan < 10; plan++) {
            Plans.act(park, "plan " + plan, plan, 0);
            Plans.said(park, "plan " + plan, 100 + plan);
        }
        Due.is(26, "drop of the last", park.drop(9), 1);
        Due.is(26, "drop of the first", park.drop(0), 1);
        Due.is(26, "one between", park.drop(5), 1);
    }

    /** "rows of STEPS, 16 at most, none at first", "ROOM". */
    private static void plansHave16StepsAtMost() {
        WindPark park = new WindPark(1);
        for (int i = 1; i <= 16; i++) {
            Due.is(25, "step " + i, park.step(3, 3, i, 0, 0), i);
            Due.is(25, "why", park.why(), 0);
        }
        Due.is(25, "the 17th", park.step(3, 3, 17, 0, 0), ROOM);
        Due.is(25, "why", park.why(), ROOM);
        Due.is(25, "another plan has room", park.step(4, 3, 1, 0, 0), 1);
        Plans.act(park, "16 steps", 3, 0);
        Plans.said(park, "16 steps", 1, 2, 3, 4, 5, 6, 7, 8, 9, 10, 11, 12, 13, 14, 15, 16);
        Due.is(26, "drop", park.drop(3), 16);
        Due.is(25, "it has room again", park.step(3, 3, 1, 0, 0), 1);
    }

    /** "UNKNOWN: the PLAN, a CASE (0 .. 2), a turbine (10 .. 13), a SLOT (12, 13), a PLAN that it names (7 .. 10)". */
    private static void stepsAtTheEdgesOfTheirNames() {
        int[][] steps = {{0, 0, 0, 0}, {0, 23, 0, 0}, {1, 0, 0, 0}, {1, 23, 0, 0}, {2, 0, 0, 0}, {2, 23, 0, 0}, {6, 1, 0, 0}, {6, 8, 0, 0},
            {7, 0, 0, 0}, {7, 9, 0, 0}, {8, 0, 0, 0}, {8, 9, 8, 9}, {9, 0, 0, 0}, {9, 9, 9, 0}, {10, 0, 0, 0}, {10, 5, 9, 0},
            {11, 0, 0, 0}, {11, 5, 0, 0}, {12, 0, 0, 0}, {12, 5, 4, 0}, {13, 0, 0, 0}, {13, 5, 4, 0}};
        for (int[] step : steps) {
            WindPark park = new WindPark(6);
            Due.is(25, "step of " + step[0], park.step(0, step[0], step[1], step[2], step[3]), 1);
            Due.is(25, "why", park.why(), 0);
        }
        for (int turbines = 1; turbines <= 6; turbines++) {
            for (int op = 10; op < 14; op++) {
                WindPark park = new WindPark(turbines);
                Due.is(25, "the last turbine", park.step(0, op, turbines - 1, 0, 0), 1);
                Due.is(25, "none behind it", park.step(0, op, turbines, 0, 0), WindPark.UNKNOWN);
            }
        }
    }

    /** Nothing but what is told refuses a STEP: the numbers that its OP does not use may be any. */
    private static void numbersThatAStepDoesNotName() {
        int[] far = {LEAST, -1, 24, MOST};
        for (int x : far) {
            WindPark park = new WindPark(1);
            int[][] steps = {{0, 0, x, x}, {1, 0, x, x}, {2, 0, x, x}, {3, x, x, x}, {4, x, x, x}, {5, x, x, x}, {6, 1, x, x},
                {7, 0, x, x}, {9, 0, 0, x}, {10, 0, 0, x}, {11, 0, x, x}, {12, 0, 0, x}, {13, 0, 0, x}};
            for (int i = 0; i < steps.length; i++) {
                Due.is(25, "step of " + steps[i][0] + " with " + x, park.step(0, steps[i][0], steps[i][1], steps[i][2], steps[i][3]), i + 1);
            }
        }
    }

    /** "A PLAN has no STEPS: how many it had." */
    private static void dropTellsHowManyItHad() {
        for (int n = 0; n <= 16; n++) {
            WindPark park = Plans.with(1, Plans.times(n, "SAY 1"), "SAY 2");
            Due.is(26, "drop", park.drop(0), n);
            Due.is(26, "why", park.why(), 0);
            Due.is(26, "drop again", park.drop(0), 0);
            Plans.act(park, "it does nothing", 0, 0);
            Plans.acted(park, "no steps", 0, 0, 1, 0, 0, 0);
            Due.is(26, "the other one", park.drop(1), 1);
        }
    }

    /** "An ACT does one from STEP 0 on; it comes to its end with NONE, or ANSWERS." */
    private static void actsBeginAtStep0AndEndAtAnAnswer() {
        WindPark park = Plans.with(1, "SAY 1, SAY 2, SAY 3", "SAY 1, ANSWER 7, SAY 2", "SAY 1, FAIL 3, SAY 2");
        Plans.act(park, "to its end", 0, 0);
        Plans.said(park, "to its end", 1, 2, 3);
        Plans.acted(park, "to its end", 0, 3, 1, 3, 0, 0);
        Plans.act(park, "answers", 1, 1);
        Plans.said(park, "answers", 1);
        Plans.acted(park, "answers", 7, 2, 1, 1, 0, 0);
        Plans.act(park, "fails", 2, SIZE);
        Plans.said(park, "fails", 1);
        Plans.acted(park, "fails", 0, 2, 1, 1, 0, 0);
    }

    /** "it comes to its end with NONE": of a PLAN without STEPS, too, within others as well. */
    private static void emptyPlansComeToTheirEnd() {
        WindPark park = Plans.with(1, "", "DO 0, TRY 0 0 0, FINALLY 0 0, HOLD 0 0");
        Plans.act(park, "an empty one", 0, 0);
        Plans.acted(park, "an empty one", 0, 0, 1, 0, 0, 0);
        Plans.act(park, "empty ones within", 1, 0);
        Plans.acted(park, "empty ones within", 0, 4, 2, 0, 0, 0);
    }

    /** "a LOG of what is said (60 at most are kept, others are lost)". */
    private static void logKeeps60() {
        for (int n = 58; n <= 62; n++) {
            WindPark park = Plans.with(1, Plans.times(4, "DO 1") + ", " + Plans.times(n - 52, "SAY 9"), Plans.times(13, "SAY 5"));
            Plans.act(park, "so often", 0, 0);
            Due.is(28, "all count", park.acted(3), n);
            Due.is(29, "the first", park.said(0), 5);
            for (int i = 52; i <= 62; i++) {
                Due.is(29, "said(" + i + ") of " + n, park.said(i), i < Math.min(n, 60) ? 9 : 0);
                Due.is(29, "why", park.why(), 0);
            }
        }
        WindPark park = Plans.with(1, Plans.times(5, "DO 1") + ", SAY 8", Plans.times(15, "LAST"), "SAY 4");
        park.act(0);
        Due.is(28, "76 times", park.acted(3), 76);
        park.act(2);
        Plans.said(park, "the next act's log", 4);
    }

    /** "and LAST (0)": of one ACT, what a PLAN done by DO ANSWERED. */
    private static void lastIs0AtFirst() {
        WindPark park = Plans.with(1, "LAST, DO 1, LAST, DO 2, LAST, DO 3, LAST, DO 4, LAST", "ANSWER 5", "SAY 6", "ANSWER 0", "ANSWER -7");
        Plans.act(park, "last", 0, 0);
        Plans.said(park, "last", 0, 5, 6, 5, 0, -7);
        Plans.act(park, "the next act begins with 0", 0, 0);
        Due.is(29, "last", park.said(0), 0);
        park = Plans.with(1, "DO 5, TRY 1 0 2, LAST", "FINALLY 3 4", "", "ANSWER 5", "FAIL 1", "ANSWER 8");
        Plans.act(park, "an answer that was put aside", 0, 0);
        Plans.said(park, "is not LAST", 8);
    }

    /** "0 TAKE a: what CASE a holds comes on the HAND, the CASE is EMPTY; NOTHING, if it was." */
    private static void takesOfWhatIsThere() {
        int[] ends = {0, 23};
        for (int c : ends) {
            WindPark park = Plans.with(1, "TAKE " + c + ", LAY 7", "TAKE " + c, "TAKE " + c + ", TAKE " + c);
            park.row(c, 0, 1);
            Plans.act(park, "it goes back", 1, 0);
            Plans.acted(park, "it goes back", 0, 1, 1, 0, 0, 1);
            Due.is(27, "back", park.holds(c), 0);
            Plans.act(park, "taken twice", 2, NOTHING);
            Plans.acted(park, "taken twice", 0, 2, 1, 0, 0, 0);
            Due.is(27, "undone", park.holds(c), 0);
            Plans.act(park, "taken", 0, 0);
            Due.is(27, "empty", park.holds(c), NONE);
            Due.is(27, "laid", park.holds(7), 0);
            Plans.act(park, "from an empty case", 1, NOTHING);
        }
        WindPark park = Plans.with(1, "TAKE 3, TAKE 4");
        park.part(3, 0);
        park.set(3, 4);
        Plans.act(park, "the same thing from two cases", 0, 0);
        Plans.acted(park, "the same thing from two cases", 0, 2, 1, 0, 0, 2);
        Due.is(27, "in both", park.alike(3, 4), 1);
        Due.is(27, "a part", park.holds(3), 10);
    }

    /** "1 LAY a: the top of the HAND goes into CASE a; NOTHING: no HAND ..; STORE: the CASE is not EMPTY." */
    private static void laysOfTheTop() {
        WindPark park = Plans.with(1, "TAKE 0, TAKE 1, LAY 23, LAY 5", "LAY 9", "LAY 0", "TAKE 0, LAY 1", "TAKE 0, LAY 9, LAY 10");
        park.row(0, 0, 1);
        park.row(1, 1, 1);
        Plans.act(park, "no hand", 1, NOTHING);
        Plans.act(park, "no hand, ahead of store", 2, NOTHING);
        Plans.act(park, "not empty", 3, STORE);
        Due.is(27, "undone", park.holds(0), 0);
        Plans.act(park, "no more hand", 4, NOTHING);
        Due.is(27, "undone", park.holds(0), 0);
        Due.is(27, "undone", park.holds(9), NONE);
        Plans.act(park, "two", 0, 0);
        Plans.acted(park, "two", 0, 4, 1, 0, 0, 0);
        Due.is(27, "the top first", park.holds(23), 1);
        Due.is(27, "then the one below it", park.holds(5), 0);
        Due.is(39, "two cases", park.count(2), 2);
        park = Plans.with(1, "TAKE 0, LAY 0");
        park.row(0, 0, 1);
        Plans.act(park, "into its own case", 0, 0);
        Plans.acted(park, "into its own case", 0, 2, 1, 0, 0, 0);
        Due.is(27, "it is there", park.holds(0), 0);
    }

    /** "2 WRITE a b c: item b of CASE a, treated as a ROW of ints, becomes c (CAST, NOTHING, INDEX)." */
    private static void writesAtTheEdges() {
        int[] values = {LEAST, -1, 0, MOST};
        for (int value : values) {
            WindPark park = Plans.with(1, "WRITE 23 0 " + value + ", WRITE 23 29 " + value);
            park.row(23, 3, 30);
            park.put(23, 3, 0, 3);
            park.put(23, 3, 29, 3);
            Plans.act(park, "write", 0, 0);
            Due.is(27, "the first", park.get(23, 3, 0), value);
            Due.is(27, "the last", park.get(23, 3, 29), value);
            Due.is(27, "beside it", park.get(23, 3, 28) + park.get(23, 3, 1), 0);
        }
        int[] beyond = {LEAST, -1, 30, MOST};
        for (int i : beyond) {
            WindPark park = Plans.with(1, "WRITE 4 " + i + " 8");
            park.row(4, 3, 30);
            Plans.act(park, "item " + i, 0, INDEX);
        }
        WindPark park = Plans.with(1, "WRITE 4 0 8");
        park.row(4, 3, 0);
        Plans.act(park, "a row of none", 0, INDEX);
        park.row(4, 3, 1);
        Plans.act(park, "a row of one", 0, 0);
        Due.is(27, "written", park.get(4, 3, 0), 8);
    }

    /** "treated as a ROW of ints .. (CAST, NOTHING, INDEX)": each ahead of INDEX. */
    private static void writesOfWhatIsNoRowOfInts() {
        int[] items = {0, -1, 2};
        for (int i : items) {
            WindPark park = Plans.with(1, "WRITE 4 " + i + " 8");
            Plans.act(park, "an empty case", 0, NOTHING);
            for (int lane = 0; lane < 8; lane++) {
                park.row(4, lane, 2);
                Plans.act(park, "item " + i + " of lane " + lane, 0, lane != 3 ? CAST : i == 0 ? 0 : INDEX);
                Due.is(27, "the item", park.get(4, lane, 0), lane == 3 && i == 0 ? 8 : 0);
            }
            park.grid(4, 2, 2);
            Plans.act(park, "a grid", 0, CAST);
            park.cradle(4, 0, 2);
            Plans.act(park, "a cradle", 0, CAST);
            park.part(4, 0);
            Plans.act(park, "a part", 0, CAST);
            Plans.acted(park, "a part", 0, 1, 1, 0, 0, 0);
        }
    }

    /** "3 SAY a. 4 ANSWER a. 5 SAY LAST." */
    private static void answersAndSayingsOfAnyNumber() {
        int[] numbers = {LEAST, -1, 0, 1, MOST};
        for (int number : numbers) {
            WindPark park = Plans.with(1, "SAY " + number + ", DO 1, LAST, ANSWER " + number, "ANSWER " + number);
            Plans.act(park, "answers", 0, 1);
            Plans.acted(park, "answers", number, 5, 2, 2, 0, 0);
            Plans.said(park, "says", number, number);
        }
    }

    /** "6 FAIL a (1 to 8): that FAILURE." */
    private static void failuresFrom1To8() {
        for (int failure = 1; failure <= 8; failure++) {
            WindPark park = Plans.with(1, "FAIL " + failure, "DO 0, SAY 1");
            Plans.act(park, "fail", 0, -10 - failure);
            Plans.acted(park, "fail", 0, 1, 1, 0, 0, 0);
            Plans.act(park, "fail within a plan that is done", 1, -10 - failure);
            Plans.acted(park, "fail within a plan that is done", 0, 2, 2, 0, 0, 0);
        }
    }

    /** "7 DO a: PLAN a; if it ANSWERS, that is LAST." "Of one done by 7 it is LAST alone." */
    private static void doneByDo() {
        WindPark park = Plans.with(1, "DO 1, SAY 2, LAST", "ANSWER 5", "DO 1, ANSWER 6", "DO 2, LAST");
        Plans.act(park, "the plan goes on", 0, 0);
        Plans.said(park, "the plan goes on", 2, 5);
        Plans.act(park, "its own answer", 2, 1);
        Plans.acted(park, "its own answer", 6, 3, 2, 0, 0, 0);
        Plans.act(park, "the outer answer is the last", 3, 0);
        Plans.said(park, "the outer answer is the last", 6);
        Plans.acted(park, "an answer to DO is none of the act", 0, 5, 3, 1, 0, 0);
    }

    /** "8 TRY a b c: PLAN a; if it ends by FAILURE b (0: any ..), PLAN c in its stead." */
    private static void triesOfEachFailure() {
        for (int b = 0; b <= 8; b++) {
            for (int failure = 1; failure <= 8; failure++) {
                WindPark park = Plans.with(1, "TRY 1 " + b + " 2, SAY 3", "SAY 1, FAIL " + failure, "SAY 2");
                boolean met = b == 0 || b == failure;
                Plans.act(park, "try " + b + " of " + failure, 0, met ? 0 : -10 - failure);
                if (met) {
                    Plans.said(park, "met", 1, 2, 3);
                } else {
                    Plans.said(park, "not met", 1);
                }
                Plans.acted(park, "no cause", 0, met ? 5 : 3, 2, met ? 3 : 1, 0, 0);
            }
            WindPark park = Plans.with(1, "TRY 1 " + b + " 2, SAY 3", "SAY 1", "SAY 2");
            Plans.act(park, "no failure", 0, 0);
            Plans.said(park, "no failure", 1, 3);
            park = Plans.with(1, "TRY 1 " + b + " 2, SAY 3", "ANSWER 4", "SAY 2");
            Plans.act(park, "an answer", 0, 1);
            Plans.said(park, "an answer");
        }
        WindPark park = Plans.with(1, "TRY 1 0 1, SAY 3", "SAY 1, FAIL 4");
        Plans.act(park, "what is done in its stead fails, too", 0, CAST);
        Plans.said(park, "once more", 1, 1);
    }

    /** What a PLAN did ahead of a FAILURE that a TRY meets stays: nothing but the end of an ACT by a FAILURE undoes. */
    private static void triesAreNotUndone() {
        WindPark park = Plans.with(1, "TRY 1 5 2", "TAKE 3, WRITE 4 1 9, FAIL 5", "LAY 6");
        park.part(3, 0);
        park.row(4, 3, 2);
        Plans.act(park, "try", 0, 0);
        Due.is(27, "the hand is still there", park.holds(6), 10);
        Due.is(27, "taken", park.holds(3), NONE);
        Due.is(27, "written", park.get(4, 3, 1), 9);
        Plans.acted(park, "nothing went back", 0, 5, 2, 0, 0, 0);
    }

    /** "9 FINALLY a b: PLAN a; then, however that ended .., PLAN b"; "an ANSWER or FAILURE of b in 9 puts aside what a ended with". */
    private static void finallyHoweverItEnded() {
        String[] ends = {"SAY 1", "SAY 1, ANSWER 3", "SAY 1, FAIL 2"};
        String[] finals = {"SAY 2", "SAY 2, ANSWER 4", "SAY 2, FAIL 6"};
        int[][] due = {{0, 0, 0}, {1, 4, 0}, {ZERO, 0, 0}, {1, 3, 0}, {1, 4, 0}, {ZERO, 0, 0}, {INDEX, 0, 0}, {1, 4, 2}, {ZERO, 0, 2}};
        for (int a = 0; a < 3; a++) {
            for (int b = 0; b < 3; b++) {
                WindPark park = Plans.with(1, "FINALLY 1 2, SAY 3", ends[a], finals[b]);
                int[] one = due[3 * a + b];
                Plans.act(park, ends[a] + " finally " + finals[b], 0, one[0]);
                if (one[0] == 0) {
                    Plans.said(park, "it goes on", 1, 2, 3);
                } else {
                    Plans.said(park, "it ends there", 1, 2);
                }
                Due.is(28, "the answer", park.acted(0), one[1]);
                Due.is(28, "the cause", park.acted(4), one[2]);
            }
        }
        WindPark park = Plans.with(1, "FINALLY 1 2", "ANSWER 3", "DO 3, LAST", "ANSWER 8");
        Plans.act(park, "an answer to a DO in b", 0, 1);
        Plans.acted(park, "puts nothing aside", 3, 5, 3, 1, 0, 0);
        Plans.said(park, "it is LAST", 8);
    }

    /** "(or if it could not begin)": then b could not, either, and DEEP puts DEEP aside. */
    private static void finallyIfItCouldNotBegin() {
        WindPark park = Plans.with(1, "DO 1", "DO 2", "DO 3", "DO 4", "DO 5", "DO 6", "DO 7", "SAY 1, FINALLY 8 9, SAY 2", "SAY 3", "SAY 4");
        Plans.act(park, "too deep", 0, DEEP);
        Plans.said(park, "too deep", 1);
        Plans.acted(park, "too deep", 0, 9, 8, 1, 8, 0);
        Plans.act(park, "one less deep", 1, 0);
        Plans.said(park, "one less deep", 1, 3, 4, 2);
        Plans.acted(park, "one less deep", 0, 11, 8, 4, 0, 0);
        park = Plans.with(1, "DO 1", "DO 2", "DO 3", "DO 4", "DO 5", "DO 6", "FINALLY 7 9", "SAY 1, DO 8", "SAY 3", "SAY 4, ANSWER 5");
        Plans.act(park, "a could not go deeper, b can begin", 0, 0);
        Plans.said(park, "b answered PLAN 6, which was done", 1, 4);
        Due.is(28, "the cause", park.acted(4), 8);
    }

    /** "10 HOLD a b: PLAN b, the ROTOR of turbine a held by one more, however it ends." */
    private static void holdsHoweverTheyEnd() {
        String[] ends = {"WAKE 0", "WAKE 0, ANSWER 1", "WAKE 0, FAIL 2"};
        for (String end : ends) {
            WindPark park = Plans.with(2, "FINALLY 1 2", "HOLD 0 3", "WAKE 0", end);
            Plans.act(park, "held no more behind " + end, 0, HOLD);
            Plans.said(park, "held within", 1);
            Plans.act(park, "nor in another act", 2, HOLD);
        }
        WindPark park = Plans.with(2, "TRY 1 8 2", "HOLD 0 1", "WAKE 0");
        Plans.act(park, "too deep", 0, HOLD);
        Plans.acted(park, "too deep", 0, 9, 8, 0, 0, 0);
        park = Plans.with(2, "HOLD 0 1", Plans.times(15, "DO 2") + ", WAKE 0", Plans.times(15, "SAY 1"), "WAKE 0");
        Plans.act(park, "spent", 0, SPENT);
        Plans.act(park, "held no more", 3, HOLD);
        park = Plans.with(2, "HOLD 0 1", "WAKE 1");
        Plans.act(park, "another turbine's", 0, HOLD);
    }

    /** "11 WAKE a: HOLD, unless the ROTOR of turbine a is held; else it is said how often." */
    private static void wakesSayHowOften() {
        WindPark park = Plans.with(6, "WAKE 5", "HOLD 5 0", "HOLD 5 1", "HOLD 5 2", "HOLD 5 3", "HOLD 5 4", "HOLD 5 5", "HOLD 5 6", "HOLD 0 7");
        Plans.act(park, "not held", 0, HOLD);
        Plans.said(park, "not held");
        for (int plan = 1; plan <= 7; plan++) {
            Plans.act(park, "held", plan, 0);
            Plans.said(park, "so often", plan);
        }
        Plans.act(park, "a ninth plan", 8, DEEP);
        park = Plans.with(2, "HOLD 1 1, WAKE 1", "WAKE 1, HOLD 1 2, WAKE 1, HOLD 0 2, WAKE 1", "WAKE 1");
        Plans.act(park, "once less behind each", 0, HOLD);
        Plans.said(park, "once less behind each", 1, 2, 1, 1, 1);
    }

    /** "CAST: it is not OF SENSOR (b 0 .. 2), DRIVE (3), BLADE (4)." */
    private static void fitsOfEachKind() {
        for (int slot = 0; slot < 5; slot++) {
            for (int kind = 0; kind < 7; kind++) {
                int wanted = kind < 3 ? 2 : kind < 5 ? 3 : 4;
                boolean fits = Math.max(2, slot) == wanted;
                for (int t = 0; t < 6; t += 5) {
                    WindPark park = Plans.with(6, "HOLD " + t + " 1", "TAKE 0, FIT " + t + " " + slot);
                    park.part(0, kind);
                    Plans.act(park, "kind " + kind + " in slot " + slot, 0, fits ? 0 : CAST);
                    Plans.acted(park, "fit", 0, 3, 2, 0, 0, 0);
                    for (int s = 0; s < 5; s++) {
                        Due.is(36, "slot " + s, park.of(t, 8 + s), fits && s == slot ? 0 : NONE);
                    }
                    Due.is(27, "the case", park.holds(0), fits ? NONE : 10);
                }
            }
        }
    }

    /** "the top of the HAND, a PART": CAST for what is none. */
    private static void fitsOfWhatIsNoPart() {
        for (int slot = 0; slot < 5; slot++) {
            WindPark park = Plans.with(1, "HOLD 0 1", "TAKE 0, FIT 0 " + slot);
            for (int lane = 0; lane < 8; lane++) {
                park.row(0, lane, 1);
                Plans.act(park, "a row", 0, CAST);
            }
            park.grid(0, 1, 1);
            Plans.act(park, "a grid", 0, CAST);
            park.cradle(0, slot < 3 ? 7 : slot, 1);
            Plans.act(park, "a cradle", 0, CAST);
            Due.is(27, "undone", park.holds(0), 9);
        }
    }

    /** "HOLD, if the ROTOR is not held and b is above 2; NOTHING (as LAY); CAST". */
    private static void fitsInOrderOfFailures() {
        for (int slot = 0; slot < 5; slot++) {
            WindPark park = Plans.with(2, "FIT 0 " + slot, "HOLD 0 0", "TAKE 0, FIT 0 " + slot, "HOLD 0 2", "HOLD 1 2");
            boolean locked = slot > 2;
            Plans.act(park, "not held, no hand", 0, locked ? HOLD : NOTHING);
            Plans.act(park, "held, no hand", 1, NOTHING);
            park.row(0, 0, 1);
            Plans.act(park, "not held, no part", 2, locked ? HOLD : CAST);
            Plans.act(park, "held, no part", 3, CAST);
            park.part(0, slot < 3 ? 0 : slot == 3 ? 3 : 5);
            if (locked) {
                Plans.act(park, "not held", 2, HOLD);
                Plans.act(park, "another rotor held", 4, HOLD);
                Plans.act(park, "held", 3, 0);
            } else {
                Plans.act(park, "slots of sensors need no hold", 2, 0);
            }
            Due.is(36, "it is there", park.of(0, 8 + slot), 0);
        }
    }

    /** "what was there comes on the HAND in its stead, if something was (taken from CASE 23)". */
    private static void fitsInSteadOfAnother() {
        for (int slot = 0; slot < 5; slot++) {
            int kind = slot < 3 ? slot : slot == 3 ? 4 : 6;
            WindPark park = Plans.with(1, "HOLD 0 1", "TAKE 0, FIT 0 " + slot, "HOLD 0 3", "TAKE 0, FIT 0 " + slot + ", LAY 7, LAY 8");
            park.part(0, kind);
            Plans.act(park, "into a bare slot", 0, 0);
            Plans.acted(park, "nothing comes of it", 0, 3, 2, 0, 0, 0);
            Due.is(39, "no case", park.count(2), 0);
            park.part(0, kind);
            Plans.act(park, "in stead of another", 0, 0);
            Plans.acted(park, "it goes back", 0, 3, 2, 0, 0, 1);
            Due.is(20, "to case 23", Parks.serialIn(park, 23), 0);
            Due.is(39, "there alone", park.count(2), 1);
            Due.is(36, "the new one", park.of(0, 8 + slot), 1);
            park.part(0, kind);
            Plans.act(park, "one comes, not two", 2, NOTHING);
            Due.is(36, "undone", park.of(0, 8 + slot), 1);
            Due.is(20, "undone", Parks.serialIn(park, 0), 2);
            Plans.act(park, "case 23 holds something", 0, 0);
            Due.is(20, "the least empty one", Parks.serialIn(park, 0), 1);
            Due.is(20, "case 23 as it was", Parks.serialIn(park, 23), 0);
        }
        WindPark park = Plans.with(1, "TAKE 0, TAKE 1, FIT 0 0, LAY 5");
        park.row(0, 0, 1);
        park.part(1, 0);
        Plans.act(park, "the top alone goes", 0, 0);
        Due.is(27, "the row below it", park.holds(5), 0);
    }

    /** "13 STRIP a b: what is in SLOT b comes on the HAND (from CASE 23): HOLD as 12, NOTHING." */
    private static void stripsInOrderOfFailures() {
        for (int slot = 0; slot < 5; slot++) {
            WindPark park = Plans.with(2, "STRIP 0 " + slot, "HOLD 0 0", "HOLD 1 0");
            boolean locked = slot > 2;
            Plans.act(park, "not held, bare", 0, locked ? HOLD : NOTHING);
            Plans.act(park, "another held, bare", 2, locked ? HOLD : NOTHING);
            Plans.act(park, "held, bare", 1, NOTHING);
            Parks.fit(park, 0, slot, slot < 3 ? 1 : slot == 3 ? 3 : 5);
            Plans.act(park, "not held", 0, locked ? HOLD : 0);
            Due.is(36, "the slot", park.of(0, 8 + slot), locked ? 0 : NONE);
            Plans.act(park, "held", 1, locked ? 0 : NOTHING);
            Due.is(36, "bare", park.of(0, 8 + slot), NONE);
        }
    }

    /** "what is in SLOT b comes on the HAND (from CASE 23)". */
    private static void stripsToCase23() {
        for (int slot = 0; slot < 5; slot++) {
            WindPark park = Plans.with(1, "HOLD 0 1", "STRIP 0 " + slot, "HOLD 0 3", "STRIP 0 " + slot + ", LAY 11");
            int kind = slot < 3 ? 1 : slot == 3 ? 3 : 5;
            Parks.fit(park, 0, slot, kind);
            Plans.act(park, "strip", 0, 0);
            Plans.acted(park, "it went back", 0, 2, 2, 0, 0, 1);
            Due.is(20, "to case 23", park.told(23, 0), kind);
            Due.is(39, "there alone", park.count(2), 1);
            Parks.fitAgain(park, 0, slot, 23);
            park.row(23, 0, 1);
            park.row(0, 0, 1);
            Plans.act(park, "case 23 holds something", 0, 0);
            Due.is(27, "the least empty one", park.holds(1), 10);
            Parks.fitAgain(park, 0, slot, 1);
            Plans.act(park, "laid", 2, 0);
            Due.is(27, "in that case", park.holds(11), 10);
            Plans.acted(park, "nothing is left", 0, 3, 2, 0, 0, 0);
        }
    }

    /** "A PLAN done by 8, 9, 10 is a PIECE: an ANSWER in it is one of the PLAN around". */
    private static void piecesAnswerForThePlanAround() {
        String[] pieces = {"TRY 2 0 3", "TRY 4 0 2", "FINALLY 2 3", "FINALLY 3 2", "HOLD 0 2"};
        for (String piece : pieces) {
            WindPark park = Plans.with(1, "DO 1, LAST, SAY 1", piece + ", SAY 9", "ANSWER 6", "", "FAIL 1");
            Plans.act(park, "a piece of a plan that is done: " + piece, 0, 0);
            Plans.said(park, "it is LAST: " + piece, 6, 1);
            Plans.act(park, "a piece of the act's: " + piece, 1, 1);
            Due.is(28, "its answer", park.acted(0), 6);
            Plans.said(park, "the plan around does not go on");
        }
        WindPark park = Plans.with(1, "DO 1, LAST", "TRY 2 0 0, SAY 9", "FINALLY 3 4, SAY 9", "HOLD 0 5, SAY 9", "SAY 4", "ANSWER 7");
        Plans.act(park, "pieces within pieces", 0, 0);
        Plans.said(park, "pieces within pieces", 4, 7);
    }

    /** "(a FAILURE so put aside is the CAUSE, the latest)". */
    private static void causeIsTheLatest() {
        WindPark park = Plans.with(1, "FINALLY 1 2", "FINALLY 3 4", "FAIL 3", "FAIL 1", "FAIL 2");
        Plans.act(park, "1 aside by 2, 2 aside by 3", 0, SIZE);
        Plans.acted(park, "the latest", 0, 5, 3, 0, 2, 0);
        park = Plans.with(1, "FINALLY 1 2", "FAIL 7", "FINALLY 3 4", "FAIL 5", "ANSWER 8");
        Plans.act(park, "5 aside ahead of 7", 0, 1);
        Plans.acted(park, "the latest", 8, 5, 3, 0, 7, 0);
        park = Plans.with(1, "TRY 1 0 2, FINALLY 3 4", "FINALLY 5 6", "SAY 1", "ANSWER 1", "ANSWER 2", "FAIL 4", "FAIL 5");
        Plans.act(park, "an answer put aside is no cause", 0, 1);
        Plans.acted(park, "the failure before it is", 2, 8, 3, 1, 4, 0);
        park = Plans.with(1, "FINALLY 1 2", "FAIL 7", "SAY 1");
        Plans.act(park, "not put aside", 0, HOLD);
        Due.is(28, "no cause", park.acted(4), 0);
    }

    /** "DEEP: a ninth PLAN within one another (the ACT's the first) would begin." */
    private static void deepIsTheNinth() {
        WindPark park = Plans.with(1, "DO 1, SAY 1", "DO 2", "DO 3", "DO 4", "DO 5", "DO 6", "DO 7", "DO 8", "SAY 5");
        Plans.act(park, "eight", 1, 0);
        Plans.acted(park, "eight", 0, 8, 8, 1, 0, 0);
        Plans.act(park, "nine", 0, DEEP);
        Plans.acted(park, "nine", 0, 8, 8, 0, 0, 0);
        park.drop(8);
        Plans.act(park, "an empty ninth", 0, DEEP);
        park = Plans.with(1, "DO 0");
        Plans.act(park, "a plan within itself", 0, DEEP);
        Plans.acted(park, "a plan within itself", 0, 8, 8, 0, 0, 0);
        park = Plans.with(1, "DO 1, DO 1, DO 1, DO 1, DO 1, DO 1, DO 1, DO 1, DO 1", "SAY 1");
        Plans.act(park, "one behind another is not deep", 0, 0);
        Plans.acted(park, "one behind another is not deep", 0, 18, 2, 9, 0, 0);
    }

    /** "a ninth PLAN within one another .. would begin": by each OP that does a PLAN, and met by a TRY above. */
    private static void deepByEachStep() {
        String[] ninths = {"DO 8", "TRY 8 0 9", "TRY 8 8 9", "TRY 8 1 9", "FINALLY 8 9", "HOLD 0 8"};
        for (String ninth : ninths) {
            WindPark park = Plans.with(1, "TRY 1 8 9", "DO 2", "DO 3", "DO 4", "DO 5", "DO 6", "DO 7", ninth, "SAY 5", "SAY 6");
            Plans.act(park, "met by a TRY above: " + ninth, 0, 0);
            Plans.said(park, "met: " + ninth, 6);
            Plans.acted(park, "met: " + ninth, 0, 9, 8, 1, ninth.startsWith("FINALLY") ? 8 : 0, 0);
            park.drop(0);
            Plans.add(park, 0, "TRY 1 7 9");
            Plans.act(park, "not met: " + ninth, 0, DEEP);
        }
    }

    /** "SPENT: the 101st STEP would begin." */
    private static void spentIsThe101st() {
        // 6 times 15 STEPS, then some
        for (int says = 8; says <= 10; says++) {
            WindPark park = Plans.with(1, Plans.times(6, "DO 1") + ", " + Plans.times(says, "SAY 2"), Plans.times(14, "SAY 1"));
            Plans.act(park, 90 + says + " steps", 0, 0);
            Due.is(28, "steps", park.acted(1), 90 + says);
        }
        WindPark park = Plans.with(1, Plans.times(6, "DO 1") + ", " + Plans.times(10, "SAY 2"), Plans.times(14, "SAY 1"), "DO 0", "DO 0, ANSWER 5");
        Plans.act(park, "100 steps", 0, 0);
        Plans.acted(park, "100 steps", 0, 100, 2, 94, 0, 0);
        Plans.act(park, "101 steps", 2, SPENT);
        Plans.acted(park, "101 steps", 0, 100, 3, 93, 0, 0);
        Plans.act(park, "102 steps", 3, SPENT);
        Plans.acted(park, "102 steps", 0, 100, 3, 93, 0, 0);
        Plans.act(park, "100 steps again", 0, 0);
        park = Plans.with(1, Plans.times(6, "DO 1") + ", " + Plans.times(8, "SAY 2") + ", DO 2, ANSWER 3", Plans.times(14, "SAY 1"), "");
        Plans.act(park, "an answer at the 100th", 0, 1);
        Plans.acted(park, "an answer at the 100th", 3, 100, 2, 92, 0, 0);
        park = Plans.with(1, Plans.times(6, "DO 1") + ", " + Plans.times(9, "SAY 2") + ", DO 2", Plans.times(14, "SAY 1"), "");
        Plans.act(park, "an empty plan behind the 100th begins", 0, 0);
        Plans.add(park, 2, "SAY 3");
        Plans.act(park, "its step does not", 0, SPENT);
    }

    /** "(0: any; never by SPENT)", "but for SPENT". */
    private static void spentIsNeverMet() {
        String[] around = {"TRY 1 0 9", "FINALLY 1 9", "HOLD 0 1", "DO 1", "TRY 1 8 9"};
        for (String step : around) {
            WindPark park = Plans.with(1, step, Plans.times(16, "DO 2"), Plans.times(15, "SAY 1"), "", "", "", "", "", "", "SAY 7, ANSWER 8");
            Plans.act(park, "spent within " + step, 0, SPENT);
            Plans.acted(park, "spent within " + step, 0, 100, 3, 92, 0, 0);
            Due.is(29, "the other plan was not done", park.said(59), 1);
        }
        String[] beforeAnEmptyOne = {"TRY 1 0 9", "TRY 1 8 9", "FINALLY 1 9"};
        for (String step : beforeAnEmptyOne) {
            WindPark park = Plans.with(1, step, Plans.times(16, "DO 2"), Plans.times(15, "SAY 1"));
            Plans.act(park, "spent within " + step + ", which is empty", 0, SPENT);
            Plans.acted(park, "spent within " + step, 0, 100, 3, 92, 0, 0);
        }
    }

    /** A FAILURE of b by SPENT, too, puts aside what a ended with; at a's 100th STEP an empty b still comes to its end. */
    private static void spentInTheFinalPlan() {
        WindPark park = Plans.with(1, "FINALLY 1 2", "FAIL 4", Plans.times(16, "DO 3"), Plans.times(15, "SAY 1"));
        Plans.act(park, "spent in b", 0, SPENT);
        Plans.acted(park, "spent in b", 0, 100, 3, 91, 4, 0);
        park = Plans.with(1, "FINALLY 1 2", Plans.times(6, "DO 3") + ", " + Plans.times(8, "SAY 1") + ", FAIL 4", "", Plans.times(14, "SAY 1"));
        Plans.act(park, "a fails at its 100th step, b is empty", 0, CAST);
        Plans.acted(park, "a fails at its 100th step", 0, 100, 3, 92, 0, 0);
        Plans.add(park, 2, "SAY 9");
        Plans.act(park, "b has a step", 0, SPENT);
        Plans.acted(park, "b has a step", 0, 100, 3, 92, 4, 0);
    }

    /** "what is on the HAND goes back, the last first: into the CASE that it was taken from". */
    private static void handGoesBackTheLastFirst() {
        WindPark park = Plans.with(1, "TAKE 0, TAKE 23, TAKE 7, ANSWER 2");
        park.row(0, 0, 1);
        park.row(23, 1, 1);
        park.row(7, 2, 1);
        Plans.act(park, "answers", 0, 1);
        Plans.acted(park, "three go back", 2, 4, 1, 0, 0, 3);
        Due.is(27, "case 0", park.holds(0), 0);
        Due.is(27, "case 23", park.holds(23), 1);
        Due.is(27, "case 7", park.holds(7), 2);
        // CASE 5 is taken first; what was in 6 is laid there. The last on the HAND, of 8, takes the least EMPTY CASE first
        park = Plans.with(1, "TAKE 5, TAKE 8, TAKE 6, LAY 5, TAKE 9, LAY 8");
        park.row(5, 0, 1);
        park.row(8, 1, 1);
        park.row(6, 2, 1);
        park.row(9, 3, 1);
        Plans.act(park, "two find their cases full", 0, 0);
        Plans.acted(park, "two go back", 0, 6, 1, 0, 0, 2);
        int[] due = {1, 0, NONE, NONE, NONE, 2, NONE, NONE, 3, NONE};
        for (int c = 0; c < due.length; c++) {
            Due.is(27, "case " + c, park.holds(c), due[c]);
        }
    }

    /** "each with the CASE that it was taken from": the latest one. */
    private static void takenAgainGoesBackThere() {
        WindPark park = Plans.with(1, "TAKE 3, LAY 9, TAKE 9", "TAKE 9, FIT 0 0, STRIP 0 0");
        park.part(3, 0);
        Plans.act(park, "laid and taken again", 0, 0);
        Plans.acted(park, "laid and taken again", 0, 3, 1, 0, 0, 1);
        Due.is(27, "case 3", park.holds(3), NONE);
        Due.is(27, "case 9", park.holds(9), 10);
        Plans.act(park, "fitted and stripped again", 1, 0);
        Due.is(27, "case 9", park.holds(9), NONE);
        Due.is(27, "case 23", park.holds(23), 10);
    }

    /** "It has a HAND": nothing of another ACT is on it, however that ended. */
    private static void handIsOfOneAct() {
        WindPark park = Plans.with(1, "TAKE 3", "TAKE 3, ANSWER 1", "TAKE 3, FAIL 1", "LAY 9");
        park.part(3, 0);
        int[] due = {0, 1, NOTHING};
        for (int plan = 0; plan < 3; plan++) {
            Plans.act(park, "with a hand", plan, due[plan]);
            Due.is(27, "back", park.holds(3), 10);
            Plans.act(park, "no hand", 3, NOTHING);
            Due.is(27, "nothing laid", park.holds(9), NONE);
        }
    }

    /** "or, if that holds something, the least EMPTY one". */
    private static void handGoesToTheLeastEmpty() {
        for (int empty = 0; empty < 24; empty++) {
            WindPark park = Plans.with(1, "TAKE 22, TAKE 23, LAY 22, STRIP 0 0, LAY 23");
            Parks.fit(park, 0, 0, 2);
            for (int c = 0; c < 24; c++) {
                if (c < empty || c > 21) {
                    park.row(c, c == 22 ? 5 : c == 23 ? 6 : 0, 1);
                }
            }
            int due = empty < 22 ? empty : NONE;
            Plans.act(park, "cases below " + empty + " hold something", 0, 0);
            Plans.acted(park, "it goes back", 0, 5, 1, 0, 0, due == NONE ? 0 : 1);
            if (due != NONE) {
                Due.is(27, "to case " + due, park.holds(due), 5);
            }
            Due.is(27, "case 22", park.holds(22), 6);
            Due.is(27, "case 23", park.holds(23), 10);
        }
    }

    /** "no EMPTY one: it is gone." */
    private static void handIsGoneIfNoneIsEmpty() {
        for (int empty = 0; empty <= 2; empty++) {
            WindPark park = Plans.with(1, "STRIP 0 0, STRIP 0 1, STRIP 0 2");
            for (int slot = 0; slot < 3; slot++) {
                Parks.fit(park, 0, slot, slot);
            }
            for (int c = empty; c < 24; c++) {
                park.row(c, 0, 1);
            }
            Plans.act(park, empty + " are empty", 0, 0);
            Plans.acted(park, empty + " are empty", 0, 3, 1, 0, 0, empty);
            Due.is(39, "all are full", park.count(2), 24);
            for (int slot = 0; slot < 3; slot++) {
                Due.is(36, "bare", park.of(0, 8 + slot), NONE);
            }
            for (int c = 0; c < empty; c++) {
                Due.is(20, "the last first", Parks.serialIn(park, c), 2 - c);
            }
        }
    }

    /** "a pile of THINGS, each with the CASE that it was taken from": all that there are. */
    private static void all24CasesOnTheHand() {
        StringBuilder first = new StringBuilder("TAKE 0");
        StringBuilder second = new StringBuilder("TAKE 12");
        for (int c = 1; c < 12; c++) {
            first.append(", TAKE ").append(c);
            second.append(", TAKE ").append(12 + c);
        }
        WindPark park = Plans.with(1, "DO 1, DO 2", first.toString(), second.toString(), "DO 1, DO 2, FAIL 1");
        for (int c = 0; c < 24; c++) {
            park.part(c, c % 7);
        }
        Plans.act(park, "all", 0, 0);
        Plans.acted(park, "all", 0, 26, 2, 0, 0, 24);
        Plans.act(park, "all, undone", 3, NOTHING);
        Plans.acted(park, "all, undone", 0, 27, 2, 0, 0, 0);
        for (int c = 0; c < 24; c++) {
            Due.is(27, "case " + c, Parks.serialIn(park, c), c);
        }
    }

    /** "One that ends by a FAILURE is undone: CASES .. are as ahead of it". */
    private static void failuresUndoCases() {
        String[] ends = {"FAIL 1", "FAIL 8", "LAY 3", "TAKE 9", "WAKE 0", "DO 0"};
        int[] due = {NOTHING, DEEP, STORE, NOTHING, HOLD, NOTHING};
        for (int i = 0; i < ends.length; i++) {
            WindPark park = Plans.with(1, "TAKE 0, LAY 23, TAKE 1, LAY 0, TAKE 2, TAKE 23, " + ends[i]);
            for (int c = 0; c < 4; c++) {
                park.row(c, c, 1);
            }
            park.set(2, 4);
            Plans.act(park, "ends by " + ends[i], 0, due[i]);
            for (int c = 0; c < 4; c++) {
                Due.is(27, "case " + c + ", ended by " + ends[i], park.holds(c), c);
            }
            Due.is(27, "the same thing", park.alike(2, 4), 1);
            Due.is(27, "case 23", park.holds(23), NONE);
            Due.is(28, "nothing went back", park.acted(5), 0);
        }
        WindPark park = Plans.with(1, "TAKE 0, LAY 1, " + Plans.times(13, "DO 1"), Plans.times(15, "SAY 1"));
        park.row(0, 0, 1);
        Plans.act(park, "spent", 0, SPENT);
        Due.is(27, "case 0", park.holds(0), 0);
        Due.is(27, "case 1", park.holds(1), NONE);
    }

    /** "items written .. are as ahead of it". */
    private static void failuresUndoItems() {
        WindPark park = Plans.with(1, "WRITE 0 0 1, WRITE 0 0 2, WRITE 1 29 3, WRITE 1 0 4, TAKE 0, LAY 5, WRITE 5 29 6, TAKE 5, FAIL 6");
        park.row(0, 3, 30);
        park.put(0, 3, 0, 70);
        park.put(0, 3, 29, 71);
        park.set(0, 1);
        park.grid(2, 1, -1);
        park.link(2, 0, 0);
        Plans.act(park, "fails", 0, ZERO);
        Due.is(27, "the first", park.get(0, 3, 0), 70);
        Due.is(27, "the last", park.get(0, 3, 29), 71);
        Due.is(27, "of the grid", park.getAt(2, 0, 29), 71);
        Due.is(27, "still the same row", park.alike(0, 1), 1);
        StringBuilder writes = new StringBuilder("WRITE 0 0 5");
        for (int i = 1; i < 16; i++) {
            writes.append(", WRITE 0 ").append(i).append(" 5");
        }
        park = Plans.with(1, Plans.times(5, "DO 1") + ", WRITE 0 29 5, " + Plans.times(9, "WRITE 0 0 6") + ", DO 1", writes.toString());
        park.row(0, 3, 30);
        for (int i = 0; i < 30; i++) {
            park.put(0, 3, i, 100 + i);
        }
        Plans.act(park, "as many writes as there may be, spent", 0, SPENT);
        for (int i = 0; i < 30; i++) {
            Due.is(27, "item " + i, park.get(0, 3, i), 100 + i);
        }
        park.drop(0);
        Plans.add(park, 0, "DO 1, ANSWER 1");
        Plans.act(park, "without failure they stay", 0, 1);
        Due.is(27, "item 15", park.get(0, 3, 15), 5);
        Due.is(27, "item 16", park.get(0, 3, 16), 116);
    }

    /** "as ahead of it": what an ACT before wrote stays, and each item that this one wrote is brought back. */
    private static void failuresUndoTheirOwnWritesAlone() {
        for (int writes = 1; writes <= 3; writes++) {
            StringBuilder steps = new StringBuilder();
            for (int i = 0; i < writes; i++) {
                steps.append("WRITE 0 ").append(i).append(" 9, ");
            }
            WindPark park = Plans.with(1, "WRITE 0 0 5, WRITE 0 1 6, WRITE 0 3 7", steps + "FAIL 1", steps + "DO 1");
            park.row(0, 3, 4);
            int[] first = {0, 0, 0, 0};
            items(park, first);
            Plans.act(park, "nothing is written yet", 1, NOTHING);
            items(park, first);
            Plans.act(park, "written", 0, 0);
            int[] second = {5, 6, 0, 7};
            items(park, second);
            Plans.act(park, "fails", 1, NOTHING);
            items(park, second);
            Plans.act(park, "fails within", 2, NOTHING);
            items(park, second);
            park.put(0, 3, 0, 8);
            Plans.act(park, "fails again", 1, NOTHING);
            second[0] = 8;
            items(park, second);
        }
    }

    private static void items(WindPark park, int... due) {
        for (int i = 0; i < due.length; i++) {
            Due.is(27, "item " + i, park.get(0, 3, i), due[i]);
        }
    }

    /** "SLOTS are as ahead of it". */
    private static void failuresUndoSlots() {
        for (int t = 0; t < 6; t += 5) {
            WindPark park = Plans.with(6, "HOLD " + t + " 1, FAIL 2",
                "STRIP " + t + " 0, STRIP " + t + " 3, STRIP " + t + " 4, LAY 9, TAKE 0, FIT " + t + " 1, TAKE 1, FIT " + t + " 4");
            int[] kinds = {0, 1, 2, 3, 5};
            for (int slot = 0; slot < 5; slot++) {
                if (slot != 1) {
                    Parks.fit(park, t, slot, kinds[slot]);
                }
            }
            park.part(0, 2);
            park.part(1, 6);
            Plans.act(park, "fails", 0, INDEX);
            int[] serials = {0, NONE, 1, 2, 3};
            for (int slot = 0; slot < 5; slot++) {
                Due.is(36, "slot " + slot + " of turbine " + t, park.of(t, 8 + slot), serials[slot]);
            }
            Due.is(20, "case 0", Parks.serialIn(park, 0), 4);
            Due.is(20, "case 1", Parks.serialIn(park, 1), 5);
            Due.is(27, "case 9", park.holds(9), NONE);
            Due.is(39, "no others", park.count(2), 2);
        }
    }

    /** "(not the LOG, the TRACE)". */
    private static void failuresLeaveTheLog() {
        WindPark park = Plans.with(1, "SAY 4, DO 1, FAIL 3", "SAY 5");
        park.part(0, 2);
        park.ask(0, 0, 0);
        Plans.act(park, "fails", 0, SIZE);
        Plans.said(park, "the log stays", 4, 5);
        Due.is(21, "the trace stays", park.traced(0), 13);
        Due.is(39, "both bodies", park.count(5), 2);
    }

    /** "Of the latest ACT: 0 what it ANSWERED (0) .. 4 the CAUSE (0: none), 5 .. (0 if it was undone). .. 0 before." */
    private static void actedBeforeAndOfTheLatest() {
        WindPark park = Plans.with(1, "FINALLY 1 2", "TAKE 0, FAIL 4", "SAY 1, ANSWER 9", "", "DO 2, TAKE 0, FAIL 2");
        Plans.acted(park, "before", 0, 0, 0, 0, 0, 0);
        Due.is(29, "before", park.said(0), 0);
        park.row(0, 0, 1);
        Plans.act(park, "all are told", 0, 1);
        Plans.acted(park, "all are told", 9, 5, 2, 1, 4, 1);
        Due.is(27, "a refused act", park.act(10), WindPark.UNKNOWN);
        Plans.acted(park, "is none", 9, 5, 2, 1, 4, 1);
        Plans.act(park, "one that has nothing", 3, 0);
        Plans.acted(park, "one that has nothing", 0, 0, 1, 0, 0, 0);
        Plans.act(park, "one that is undone", 4, INDEX);
        Plans.acted(park, "one that is undone", 0, 5, 2, 1, 0, 0);
        Due.is(28, "6", park.acted(6), WindPark.OUTSIDE);
        Due.is(28, "-1", park.acted(-1), WindPark.OUTSIDE);
    }

    /** "What was said i-th in it (of those kept); 0: none such." */
    private static void saidOfNoneSuch() {
        WindPark park = Plans.with(1, "SAY 7, SAY 8");
        Plans.act(park, "says two", 0, 0);
        int[][] given = {{LEAST, 0}, {-1, 0}, {0, 7}, {1, 8}, {2, 0}, {59, 0}, {60, 0}, {MOST, 0}};
        for (int[] one : given) {
            Due.is(29, "said(" + one[0] + ")", park.said(one[0]), one[1]);
            Due.is(29, "that is no refusal", park.why(), 0);
        }
    }
}
