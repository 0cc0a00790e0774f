import java.lang.reflect.Constructor;
import java.lang.reflect.Method;
import java.lang.reflect.Modifier;
import java.util.ArrayList;
import java.util.Arrays;
import java.util.HashMap;
import java.util.List;
import java.util.Map;
import java.util.Random;

/** Promises 1 to 39 in runs of 512 calls, by seeds, each call and why() behind it held against the Model. */
public final class RandomRunsTest {
    private static final int RUNS = 6000;
    private static final int CALLS = 512;
    private static final int CALLS_TO_LOOK = 120;
    private static final String[] STORE = {"row", "grid", "cradle", "part", "set", "clear", "holds", "put", "put", "put",
        "get", "get", "putAt", "putAt", "getAt", "getAt", "link", "link", "lay", "lay", "lift", "lift", "copy", "copy",
        "copy", "length", "alike", "alike", "ask", "told", "traced", "forget", "seconds", "seconds", "test", "count"};
    private static final String[] ACTS = {"row", "part", "part", "set", "clear", "holds", "get", "put", "alike", "step",
        "step", "step", "step", "step", "step", "step", "step", "step", "drop", "act", "act", "act", "act", "acted",
        "acted", "acted", "said", "said", "of", "count"};
    private static final String[] TURBINES = {"part", "step", "act", "place", "place", "read", "read", "read", "read",
        "read", "wind", "bound", "run", "run", "run", "run", "reset", "reset", "of", "of", "of", "of", "of", "of",
        "finding", "count", "ask", "told", "forget", "traced", "set"};
    private static final double[] NUMBERS = {0.0, -0.0, 0.5, 1.0, -1.0, 3.5, 4.0, 3.9999999999999996, 5.0, 7.25, 8.0, 9.5,
        11.0, 12.125, 14.0, 20.0, 30.0, 90.0, 1000.0, -1000.0, 1000.0000000000001, -7.5, 1.0e-320, -4.9e-324,
        Double.MIN_NORMAL, Double.MAX_VALUE, -Double.MAX_VALUE, Double.POSITIVE_INFINITY, Double.NEGATIVE_INFINITY,
        Double.NaN, 0.1, 1.0 / 3.0};

    private final Random random;
    private final String[] profile;
    private final int turbines;
    private final WindPark park;
    private final Object model;
    private final List<String> told = new ArrayList<>();
    private int calls;

    private static final Map<String, Method> OF_PARK = methodsOf(WindPark.class);
    private static final Map<String, Method> OF_MODEL = methodsOf(Model.class);

    private RandomRunsTest(int seed) throws ReflectiveOperationException {
        random = new Random(seed);
        String[] all = OF_PARK.keySet().toArray(new String[0]);
        Arrays.sort(all);
        String[][] profiles = {STORE, ACTS, TURBINES, TURBINES, all};
        profile = profiles[seed % profiles.length];
        turbines = random.nextInt(10) - 1;
        park = new WindPark(turbines);
        Constructor<?> made = Model.class.getDeclaredConstructor(int.class);
        model = made.newInstance(turbines);
    }

    public static void main(String[] args) throws ReflectiveOperationException {
        for (int seed = 0; seed < RUNS; seed++) {
            new RandomRunsTest(seed).run();
        }
        Due.end("RandomRunsTest");
    }

    private static Map<String, Method> methodsOf(Class<?> type) {
        Map<String, Method> methods = new HashMap<>();
        for (Method method : type.getDeclaredMethods()) {
            boolean seen = type == Model.class ? !Modifier.isPrivate(method.getModifiers())
                : Modifier.isPublic(method.getModifiers());
            if (seen && !method.isSynthetic()) {
                methods.put(method.getName(), method);
            }
        }
        return methods;
    }

    private void run() throws ReflectiveOperationException {
        if (profile == TURBINES) {
            fitTurbines();
        }
        if (profile == ACTS) {
            fillCases();
        }
        while (calls < CALLS - CALLS_TO_LOOK) {
            String name = profile[random.nextInt(profile.length)];
            call(name, argumentsOf(name));
            if (random.nextInt(4) == 0 && (name.equals("run") || name.equals("act"))) {
                lookAround();
            }
        }
        while (calls < CALLS) {
            lookAround();
        }
    }

    /** A few looks at what the last call may have changed. */
    private void lookAround() throws ReflectiveOperationException {
        int t = random.nextInt(6);
        for (int what = 0; what < 8; what++) {
            look("of", t, what);
        }
        for (int i = 0; i < 3; i++) {
            int c = random.nextInt(24);
            look("holds", c);
            look("told", c, 1 + i % 2);
            look("get", c, 3, i);
            look("of", t, 8 + random.nextInt(5));
            look("acted", random.nextInt(6));
            look("count", random.nextInt(6));
            look("finding", random.nextInt(6), i);
            look("said", random.nextInt(8));
            look("traced", random.nextInt(8));
        }
    }

    private void look(String name, Object... arguments) throws ReflectiveOperationException {
        if (calls < CALLS) {
            call(name, arguments);
        }
    }

    private void fillCases() throws ReflectiveOperationException {
        for (int c = 0; c < 24; c++) {
            if (c < 7 || random.nextInt(8) > 0) {
                boolean row = random.nextInt(3) == 0;
                call(row ? "row" : "part", row ? new Object[] {c, 3, 4} : new Object[] {c, random.nextInt(7)});
            }
        }
    }

    /** Calls both and holds their answers and what why() tells against each other. */
    private void call(String name, Object... arguments) throws ReflectiveOperationException {
        calls += 2;
        String words = name + Arrays.toString(arguments);
        told.add(words);
        Object got = OF_PARK.get(name).invoke(park, arguments);
        Object due = OF_MODEL.get(name).invoke(model, arguments);
        String where = "turbines " + turbines + ", call " + told.size() + " " + words;
        Due.is(38, where, ((Number) got).longValue(), ((Number) due).longValue());
        Due.is(38, "why() behind " + where, park.why(), ((Number) OF_MODEL.get("why").invoke(model)).intValue());
    }

    private void fitTurbines() throws ReflectiveOperationException {
        int n = Math.max(1, Math.min(6, turbines));
        for (int t = 0; t < n; t++) {
            call("drop", 0);
            call("drop", 1);
            call("step", 0, 10, t, 1, 0);
            int first = random.nextInt(5);
            for (int i = 0; i < 5; i++) {
                int slot = (first + i) % 5;
                if (random.nextInt(12) > 0) {
                    int kind = slot < 3 ? random.nextInt(3) : slot == 3 ? 3 + random.nextInt(2) : 5 + random.nextInt(2);
                    call("part", slot, kind);
                    call("step", 1, 0, slot, 0, 0);
                    call("step", 1, 12, t, slot, 0);
                }
            }
            call("act", 0);
            call("place", t, random.nextInt(21) - 10, random.nextInt(9) - 4);
            double wind = 4.0 + random.nextInt(60) / 4.0;
            for (int s = 0; s < 3; s++) {
                call("read", t, s, Double.doubleToLongBits(wind + random.nextInt(5) * 0.1));
            }
        }
        if (random.nextInt(4) > 0) {
            call("run", 40);
        }
    }

    private int formIn(Object c) throws ReflectiveOperationException {
        return (Integer) OF_MODEL.get("holds").invoke(model, c);
    }

    private Object[] argumentsOf(String name) throws ReflectiveOperationException {
        Class<?>[] types = OF_PARK.get(name).getParameterTypes();
        Object[] arguments = new Object[types.length];
        for (int i = 0; i < types.length; i++) {
            arguments[i] = types[i] == long.class ? (Object) bits(name)
                : types[i] == boolean.class ? (Object) random.nextBoolean() : (Object) number(name, i);
        }
        if (name.equals("step") && random.nextInt(10) > 0) {
            fillStep(arguments);
        }
        if ((name.equals("put") || name.equals("get") || name.equals("length")) && random.nextInt(8) > 0) {
            arguments[1] = Math.max(0, formIn(arguments[0]));
        }
        if ((name.equals("seconds") || name.equals("test")) && random.nextInt(8) > 0) {
            arguments[1] = formIn(arguments[0]) == 5 ? 5 : 6;
        }
        return arguments;
    }

    private long bits(String name) {
        if (random.nextInt(30) == 0) {
            return random.nextLong();
        }
        double number = random.nextInt(3) == 0 ? NUMBERS[random.nextInt(NUMBERS.length)] : random.nextInt(120) / 8.0;
        if (name.equals("bound")) {
            number = random.nextInt(3) == 0 ? number : random.nextInt(1000) / 8.0;
        }
        return name.equals("put") && random.nextBoolean()
            ? Float.floatToIntBits((float) number) : Double.doubleToLongBits(number);
    }

    private int number(String name, int i) {
        if (random.nextInt(60) == 0) {
            int[] far = {-1, -2, -3, 24, 31, 100, 101, -100, -101, 10000, 10001, Integer.MAX_VALUE, Integer.MIN_VALUE};
            return far[random.nextInt(far.length)];
        }
        if (name.equals("run")) {
            return 1 + random.nextInt(random.nextInt(4) == 0 ? 40 : 6);
        }
        if (name.equals("place") && i > 0) {
            return random.nextInt(3) == 0 ? random.nextInt(201) - 100 : random.nextInt(15) - 7;
        }
        if (name.equals("of") && i == 1) {
            return random.nextInt(14);
        }
        if (name.equals("ask") && i == 2) {
            return random.nextInt(3) == 0 ? random.nextInt(10001) : random.nextInt(60);
        }
        if (name.equals("said") || name.equals("traced") || name.equals("finding") && i == 0) {
            return random.nextInt(random.nextBoolean() ? 8 : 64);
        }
        if (profile == ACTS && (name.equals("act") || name.equals("drop"))) {
            return random.nextInt(5);
        }
        return random.nextInt(random.nextInt(3) == 0 ? 13 : 6);
    }

    private void fillStep(Object[] step) {
        int op = random.nextInt(14);
        boolean plans = op >= 7 && op <= 9;
        step[0] = random.nextInt(5);
        step[1] = op;
        step[2] = plans ? random.nextInt(5) : op >= 10 ? random.nextInt(2) : 1 + random.nextInt(6);
        step[3] = random.nextInt(op == 8 ? 9 : 5);
        step[4] = random.nextInt(5);
    }
}
