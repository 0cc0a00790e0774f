import java.io.IOException;
import java.lang.reflect.Constructor;
import java.lang.reflect.Field;
import java.lang.reflect.Method;
import java.lang.reflect.Modifier;
import java.nio.file.Files;
import java.nio.file.Path;
import java.util.Arrays;
import java.util.Set;
import java.util.TreeSet;
import java.util.regex.Matcher;
import java.util.regex.Pattern;

/** The public face of the document, and those rules of LANGUAGE.md that can be looked at from outside. */
public final class LanguageTest {
    private static final String[] FACE = {
        "int row(int,int,int)", "int grid(int,int,int)", "int cradle(int,int,int)", "int part(int,int)", "int set(int,int)",
        "int clear(int)", "int holds(int)", "int put(int,int,int,long)", "long get(int,int,int)", "int putAt(int,int,int,int)",
        "int getAt(int,int,int)", "int link(int,int,int)", "int lay(int,int,int)", "int lift(int,int,int,int)",
        "int copy(int,int,int,int,int)", "int length(int,int)", "int alike(int,int)", "long ask(int,int,int)",
        "long told(int,int)", "int traced(int)", "int forget()", "long seconds(int,int,int)", "int test(int,int,int,int,int)",
        "int step(int,int,int,int,int)", "int drop(int)", "int act(int)", "int acted(int)", "int said(int)",
        "int place(int,int,int)", "int read(int,int,long)", "int wind(int,boolean)", "int bound(int,long)", "int run(int)",
        "int reset(int)", "long of(int,int)", "int finding(int,int)", "int why()", "int count(int)"};
    /** Words that rules 1 to 6 and 13 leave no use for; "->" may stand in a switch alone. */
    private static final String[] FORBIDDEN = {"\\bthrow\\b", "\\btry\\b", "\\bcatch\\b", "\\bsynchronized\\b", "\\bassert\\b",
        "\\bimport (?!java\\.util\\.(ArrayList|List|Arrays|Iterator);)", "(?m)^package\\b", "\\bprotected\\b",
        "(?m)^(?!\\s*(case|default)\\b).*->", "::", "\\bDouble\\.", "\\bFloat\\.", "\\bMath\\.(sqrt|random)\\b", "Exact\\b",
        "\\bhashCode\\b", "\\bSystem\\.(?!arraycopy\\b)", "static final (double|float)\\b", "\\bThread\\b"};
    // "some twelve", "some twenty" and "some sixty" of rule 11, with what "some" leaves
    private static final int MOST_CLASSES = 14, MOST_FIELDS = 22, MOST_LINES = 66, MOST_PARAMETERS = 7;

    public static void main(String[] args) throws IOException {
        Due.is(1, "public and final", WindPark.class.getModifiers() & (Modifier.PUBLIC | Modifier.FINAL),
            Modifier.PUBLIC | Modifier.FINAL);
        constants();
        methods();
        classes();
        text(Files.readString(Path.of("src/main/java/WindPark.java")));
        Due.end("LanguageTest");
    }

    private static void constants() {
        Due.is(1, "NONE", WindPark.NONE, -1);
        Due.is(1, "UNKNOWN", WindPark.UNKNOWN, -2);
        Due.is(1, "OUTSIDE", WindPark.OUTSIDE, -3);
        Due.is(1, "STATE", WindPark.STATE, -4);
        Due.is(1, "ROOM", WindPark.ROOM, -5);
        int open = 0;
        for (Field field : WindPark.class.getDeclaredFields()) {
            open += Modifier.isPrivate(field.getModifiers()) ? 0 : 1;
        }
        Due.is(1, "constants that are public", open, 5);
    }

    private static void methods() {
        Set<String> seen = new TreeSet<>();
        Set<String> names = new TreeSet<>();
        for (Method method : WindPark.class.getDeclaredMethods()) {
            if (!Modifier.isPrivate(method.getModifiers()) && !method.isSynthetic()) {
                StringBuilder types = new StringBuilder();
                for (Class<?> type : method.getParameterTypes()) {
                    types.append(types.length() == 0 ? "" : ",").append(type);
                }
                seen.add(method.getReturnType() + " " + method.getName() + "(" + types + ")");
                names.add(method.getName());
            }
        }
        for (String method : FACE) {
            Due.is(1, method, seen.remove(method) ? 1 : 0, 1);
        }
        Due.is(1, "methods beside the face " + seen, seen.size(), 0);
        Constructor<?>[] constructors = WindPark.class.getDeclaredConstructors();
        Due.is(1, "constructors", constructors.length, 1);
        Due.is(1, "WindPark(int)", Arrays.equals(constructors[0].getParameterTypes(), new Class<?>[] {int.class}) ? 1 : 0, 1);
        for (Method method : WindPark.class.getDeclaredMethods()) {
            boolean hidden = Modifier.isPrivate(method.getModifiers()) && !method.isSynthetic();
            Due.is(1, "a private method with the name of a public one: " + method,
                hidden && names.contains(method.getName()) ? 1 : 0, 0);
        }
    }

    private static void classes() {
        Class<?>[] inside = WindPark.class.getDeclaredClasses();
        Due.is(1, "classes of the file", Math.max(MOST_CLASSES, inside.length + 1), MOST_CLASSES);
        for (Class<?> type : inside) {
            Due.is(1, type + " is static", type.getModifiers() & Modifier.STATIC, Modifier.STATIC);
            Due.is(1, type + " is public or protected", type.getModifiers() & (Modifier.PUBLIC | Modifier.PROTECTED), 0);
            int fields = 0;
            for (Field field : type.getDeclaredFields()) {
                boolean isStatic = Modifier.isStatic(field.getModifiers());
                fields += isStatic ? 0 : 1;
                Due.is(1, field + " is static and changes", isStatic && !Modifier.isFinal(field.getModifiers()) ? 1 : 0, 0);
            }
            Due.is(1, type + " has so many fields", Math.max(MOST_FIELDS, fields), MOST_FIELDS);
            for (Method method : type.getDeclaredMethods()) {
                Due.is(1, method + " takes so many", Math.max(MOST_PARAMETERS, method.getParameterCount()), MOST_PARAMETERS);
            }
        }
    }

    private static void text(String source) {
        String code = source.replaceAll("(?s)/\\*.*?\\*/", "").replaceAll("//[^\n]*", "");
        for (String pattern : FORBIDDEN) {
            Matcher found = Pattern.compile(pattern).matcher(code);
            Due.is(1, "the text has " + pattern, found.find() ? 1 : 0, 0);
        }
        int from = 0;
        String[] lines = source.split("\n");
        for (int i = 0; i < lines.length; i++) {
            if (lines[i].matches(" {4,8}(private|public|static|int|long|boolean|double|void)\\b.*\\) \\{")) {
                from = i;
            } else if (lines[i].matches(" {4,8}\\}")) {
                Due.is(1, "lines of the method at line " + (from + 1), Math.max(MOST_LINES, i - from + 1), MOST_LINES);
            }
        }
    }
}
