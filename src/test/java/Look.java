import java.util.ArrayList;
import java.util.List;

/** All that can be seen of a park, in looks that each keep an object within the calls for which it is used. */
final class Look {
    static final int LOOKS = 5;

    private Look() {
    }

    /** A look may change the park. */
    static List<Long> at(WindPark park, int look) {
        List<Long> seen = new ArrayList<>();
        switch (look) {
            case 0: things(park, seen); break;
            case 1: sameness(park, seen); break;
            case 2: tellings(park, seen); break;
            case 3: turbines(park, seen); break;
            default: plans(park, seen);
        }
        return seen;
    }

    private static void things(WindPark park, List<Long> seen) {
        for (int c = 0; c < 24; c++) {
            int form = park.holds(c);
            seen.add((long) form);
            int n = form >= 0 && form < 10 ? park.length(c, form) : 3;
            for (int i = 0; i < n && form >= 0; i++) {
                if (form == 8) {
                    gridRow(park, c, i, seen);
                } else {
                    seen.add(form == 10 ? park.told(c, i) : form == 9 ? 0 : park.get(c, form, i));
                }
            }
        }
        for (int c = 0; c < 24; c++) {
            int n = park.length(c, 9);
            for (int i = 0; i < n; i++) {
                seen.add(serialAt(park, c, i));
            }
        }
    }

    private static void gridRow(WindPark park, int c, int i, List<Long> seen) {
        int refused = 0;
        for (int j = 0; j < 31 && refused == 0; j++) {
            seen.add((long) park.getAt(c, i, j));
            refused = park.why();
            seen.add((long) refused);
        }
    }

    /** The SERIAL of what lies in a CRADLE of this park, by way of CASE 22; NONE. */
    static long serialAt(WindPark park, int c, int i) {
        int[] kinds = {7, 3, 5};
        for (int kind : kinds) {
            if (park.lift(c, i, kind, 22) == 1) {
                return park.holds(22) == 10 ? park.told(22, 1) : WindPark.NONE;
            }
        }
        return -99;
    }

    private static void sameness(WindPark park, List<Long> seen) {
        for (int c = 0; c < 24; c++) {
            for (int d = 0; d < c; d++) {
                seen.add((long) park.alike(c, d));
            }
        }
    }

    private static void tellings(WindPark park, List<Long> seen) {
        for (int what = 0; what < 6; what++) {
            seen.add((long) park.count(what));
            seen.add((long) park.acted(what));
        }
        for (int i = 0; i < 62; i++) {
            seen.add((long) park.traced(i));
            seen.add((long) park.said(i));
        }
        for (int i = 0; i < 41; i++) {
            for (int what = 0; what < 4; what++) {
                seen.add((long) park.finding(i, what));
            }
        }
    }

    /** READINGS, PLACES, DIRECTION and COLD show in the STEPS that come. */
    private static void turbines(WindPark park, List<Long> seen) {
        int n = park.count(0);
        for (int time = 0; time < 4; time++) {
            for (int t = 0; t < n; t++) {
                for (int what = 0; what < 13; what++) {
                    seen.add(park.of(t, what));
                }
            }
            seen.add((long) park.run(1));
        }
    }

    /** STEPS of PLANS show when they are acted. */
    private static void plans(WindPark park, List<Long> seen) {
        for (int plan = 0; plan < 10; plan++) {
            seen.add((long) park.act(plan));
            for (int what = 0; what < 6; what++) {
                seen.add((long) park.acted(what));
            }
            for (int i = 0; i < 17; i++) {
                seen.add((long) park.said(i));
            }
            seen.add((long) park.drop(plan));
        }
    }
}
