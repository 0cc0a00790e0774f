/** Counts the calls of a test whose answers are not those that are due. */
final class Due {
    private static int calls = 0;
    private static int wrong = 0;

    private Due() {
    }

    /** The promise by number, the call in words, its answer and the one that is due. */
    static void is(int promise, String call, long got, long due) {
        is("promise " + promise + ": " + call, got, due);
    }

    /** The same of what is no promise's own. */
    static void is(String what, long got, long due) {
        calls++;
        if (got != due) {
            wrong++;
            System.out.println(what + " answered " + got + ", due is " + due);
        }
    }

    static void bits(int promise, String call, long got, double due) {
        is(promise, call, got, Double.doubleToLongBits(due));
    }

    static void end(String test) {
        System.out.println(test + ": " + calls + " answers, " + wrong + " not as due");
        if (wrong != 0 || calls == 0) {
            System.exit(1);
        }
    }
}
