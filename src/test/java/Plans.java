import java.util.Arrays;
import java.util.List;

/** PLANS told in words: "TAKE 0, FIT 1 3, ANSWER 5". */
final class Plans {
    private static final List<String> OPS = Arrays.asList("TAKE", "LAY", "WRITE", "SAY", "ANSWER", "LAST", "FAIL", "DO", "TRY",
        "FINALLY", "HOLD", "WAKE", "FIT", "STRIP");

    private Plans() {
    }

    /** A park whose PLANS 0, 1, .. have these STEPS. */
    static WindPark with(int turbines, String... plans) {
        WindPark park = new WindPark(turbines);
        for (int plan = 0; plan < plans.length; plan++) {
            add(park, plan, plans[plan]);
        }
        return park;
    }

    /** STEPS more of a PLAN. */
    static void add(WindPark park, int plan, String steps) {
        if (steps.isEmpty()) {
            return;
        }
        for (String step : steps.split(", ")) {
            String[] words = step.split(" ");
            int[] numbers = new int[3];
            for (int i = 1; i < words.length; i++) {
                numbers[i - 1] = Integer.parseInt(words[i]);
            }
            int n = park.step(plan, OPS.indexOf(words[0]), numbers[0], numbers[1], numbers[2]);
            Due.is(25, "a step of the test itself: " + step, n > 0 ? 1 : n, 1);
        }
    }

    /** The same STEP so many times. */
    static String times(int n, String step) {
        StringBuilder steps = new StringBuilder();
        for (int i = 0; i < n; i++) {
            steps.append(i == 0 ? "" : ", ").append(step);
        }
        return steps.toString();
    }

    /** What acted(0), acted(1), .. tell: the answer, STEPS, how deep, how often said, the CAUSE, how many went back. */
    static void acted(WindPark park, String test, int... due) {
        for (int what = 0; what < due.length; what++) {
            Due.is(28, test + ": acted(" + what + ")", park.acted(what), due[what]);
            Due.is(38, test + ": why", park.why(), 0);
        }
    }

    /** All that was said, and that it was no more. */
    static void said(WindPark park, String test, int... due) {
        for (int i = 0; i < due.length; i++) {
            Due.is(29, test + ": said(" + i + ")", park.said(i), due[i]);
        }
        Due.is(29, test + ": said no more", park.said(due.length), 0);
        Due.is(28, test + ": said so often", park.acted(3), due.length);
    }

    /** The ACT of a PLAN: what it answers, and that why() tells a FAILURE. */
    static void act(WindPark park, String test, int plan, int due) {
        Due.is(27, test, park.act(plan), due);
        Due.is(38, test + ": why", park.why(), Math.min(0, due));
    }
}
