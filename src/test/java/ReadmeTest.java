import java.lang.reflect.Method;
import java.nio.file.Files;
import java.nio.file.Path;
import java.util.Set;
import java.util.TreeSet;
import java.util.regex.Matcher;
import java.util.regex.Pattern;

/** The example of README.md answers as it says, and has every call of the face. Run from the project's root. */
public final class ReadmeTest {
    private static final Check CHECK = new Check("ReadmeTest");
    private static final Pattern CALL = Pattern.compile("^hall\\.(\\w+)\\(([^)]*)\\);\\s+// (-?\\d+): ");

    public static void main(String[] args) throws Exception {
        BargainHall hall = new BargainHall();
        Set<String> shown = new TreeSet<>();
        for (String line : Files.readAllLines(Path.of("README.md"))) {
            if (line.startsWith("hall.")) {
                Matcher m = CALL.matcher(line);
                boolean isTold = m.find();
                CHECK.holds("a call with its answer: " + line, isTold);
                if (isTold) {
                    shown.add(m.group(1));
                    CHECK.due(line, answer(hall, m.group(1), m.group(2)), Long.parseLong(m.group(3)));
                }
            }
        }
        for (Method m : BargainHall.class.getMethods()) {
            if (m.getDeclaringClass() == BargainHall.class) {
                CHECK.holds(m.getName() + " is shown", shown.contains(m.getName()));
            }
        }
        CHECK.finish();
    }

    private static long answer(BargainHall hall, String name, String given) throws Exception {
        for (Method m : BargainHall.class.getMethods()) {
            if (m.getName().equals(name) && m.getDeclaringClass() == BargainHall.class) {
                return ((Number) m.invoke(hall, numbers(given, m.getParameterTypes()))).longValue();
            }
        }
        throw new IllegalArgumentException("README.md shows a call that is none: " + name);
    }

    private static Object[] numbers(String given, Class<?>[] kinds) {
        String[] texts = given.isEmpty() ? new String[0] : given.split(", ");
        Object[] numbers = new Object[texts.length];
        for (int i = 0; i < texts.length; i++) {
            boolean isLong = i < kinds.length && kinds[i] == long.class;
            long number = Long.decode(texts[i].replace("L", ""));
            numbers[i] = isLong ? (Object) number : (Object) (int) number;
        }
        return numbers;
    }
}
