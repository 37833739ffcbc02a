import java.io.IOException;
import java.lang.reflect.Method;
import java.nio.file.Files;
import java.nio.file.Path;
import java.util.regex.Matcher;
import java.util.regex.Pattern;

/** The calls that README.md shows, made in turn on one object, answer what stands behind them there. */
public final class ReadmeTest {
    private static final Pattern CALL = Pattern.compile("x\\.(\\w+)\\((.*)\\); +// (-?\\d+): .+");
    private static final Checks c = new Checks("ReadmeTest");

    public static void main(String[] args) throws IOException, ReflectiveOperationException {
        RammedCobbles x = new RammedCobbles();
        int answers = 0;
        int refusals = 0;
        for (String line : Files.readAllLines(Path.of("README.md"))) {
            Matcher told = CALL.matcher(line);
            if (told.matches()) {
                long want = Long.parseLong(told.group(3));
                c.due(line, answerOf(x, told.group(1), told.group(2)), want);
                answers++;
                refusals += want <= RammedCobbles.UNKNOWN ? 1 : 0;
            } else {
                c.due("a call without an answer: " + line, line.startsWith("x.") ? 1 : 0, 0);
            }
        }
        c.due("there are calls, and refusals among them", answers > 9 && refusals > 0 ? 1 : 0, 1);
        c.due("it reads a street", x.count(6), 1);
        c.due("it reads carts", x.count(2) > 0 ? 1 : 0, 1);
        c.end();
    }

    private static long answerOf(RammedCobbles x, String name, String told) throws ReflectiveOperationException {
        String[] arguments = told.isEmpty() ? new String[0] : told.split(", ");
        for (Method method : RammedCobbles.class.getMethods()) {
            if (method.getName().equals(name) && method.getParameterCount() == arguments.length) {
                return ((Number) method.invoke(x, numbers(method, arguments))).longValue();
            }
        }
        throw new NoSuchMethodException(name);
    }

    private static Object[] numbers(Method method, String[] arguments) {
        Object[] numbers = new Object[arguments.length];
        for (int i = 0; i < arguments.length; i++) {
            long number = Long.decode(arguments[i].replace("L", ""));
            boolean isLong = method.getParameterTypes()[i] == long.class;
            numbers[i] = isLong ? (Object) number : (Object) Math.toIntExact(number);
        }
        return numbers;
    }
}
