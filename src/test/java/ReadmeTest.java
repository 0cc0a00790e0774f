import java.io.IOException;
import java.lang.reflect.InvocationTargetException;
import java.lang.reflect.Method;
import java.lang.reflect.Modifier;
import java.nio.file.Files;
import java.nio.file.Path;
import java.util.Set;
import java.util.TreeSet;
import java.util.regex.Matcher;
import java.util.regex.Pattern;

/** The calls that README.md shows, one run on one object, with the answers that it tells. */
public final class ReadmeTest {
    private static final Pattern SHOWN = Pattern.compile("^park\\.(\\w+)\\((.*)\\); +// (bits\\(.*?\\)|-?\\d+)(:.*)?$");
    private static final int MOST_CALLS = 512;

    public static void main(String[] args) throws IOException, ReflectiveOperationException {
        WindPark park = new WindPark(2);
        Set<String> left = face();
        int calls = 0;
        for (String line : Files.readAllLines(Path.of("README.md"))) {
            if (line.startsWith("park.")) {
                Matcher shown = SHOWN.matcher(line);
                Due.is("whether it shows its answer: " + line, shown.matches() ? 1 : 0, 1);
                if (shown.matches()) {
                    Due.is(line, answer(park, shown.group(1), shown.group(2)), number(shown.group(3)));
                    left.remove(shown.group(1));
                    calls++;
                }
            }
        }
        Due.is("calls that README.md does not show " + left, left.size(), 0);
        Due.is("calls of one object " + calls, calls <= MOST_CALLS ? 1 : 0, 1);
        Due.end("ReadmeTest");
    }

    private static Set<String> face() {
        Set<String> names = new TreeSet<>();
        for (Method method : WindPark.class.getDeclaredMethods()) {
            if (Modifier.isPublic(method.getModifiers())) {
                names.add(method.getName());
            }
        }
        return names;
    }

    private static long answer(WindPark park, String name, String given)
            throws IllegalAccessException, InvocationTargetException {
        String[] words = given.isEmpty() ? new String[0] : given.split(", ");
        for (Method method : WindPark.class.getDeclaredMethods()) {
            if (Modifier.isPublic(method.getModifiers()) && method.getName().equals(name)
                    && method.getParameterCount() == words.length) {
                Object[] numbers = new Object[words.length];
                for (int i = 0; i < words.length; i++) {
                    numbers[i] = argument(method.getParameterTypes()[i], words[i]);
                }
                return ((Number) method.invoke(park, numbers)).longValue();
            }
        }
        throw new IllegalStateException("README.md shows a call that the face has not: " + name + "(" + given + ")");
    }

    private static Object argument(Class<?> type, String word) {
        if (type == boolean.class) {
            return Boolean.valueOf(word);
        }
        long number = number(word);
        if (type == long.class) {
            return number;
        }
        return Math.toIntExact(number);
    }

    private static long number(String word) {
        if (word.startsWith("bits(")) {
            return Double.doubleToLongBits(Double.parseDouble(word.substring(5, word.length() - 1)));
        }
        return Long.parseLong(word);
    }
}
