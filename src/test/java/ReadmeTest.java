import java.io.IOException;
import java.lang.reflect.Method;
import java.nio.file.Files;
import java.nio.file.Path;
import java.util.regex.Matcher;
import java.util.regex.Pattern;

/** The calls that README.md tells, one after the other, answer what stands behind each of them. */
public final class ReadmeTest {
    private static final Pattern CALL =
        Pattern.compile("(?m)^x\\.(\\w+)\\(([^)]*)\\); *// (-?\\d+|true|false)\\b.*$");

    public static void main(String[] args) throws IOException, ReflectiveOperationException {
        Check check = new Check();
        SeriesTables x = new SeriesTables();
        String readme = Files.readString(Path.of("README.md"));
        Matcher call = CALL.matcher(readme);
        int calls = 0;
        while (call.find()) {
            String shown = call.group(1) + "(" + call.group(2) + ")";
            check.same("README.md: " + shown, answer(x, call.group(1), call.group(2)), due(call.group(3)));
            calls++;
        }
        long lines = readme.lines().filter(line -> line.startsWith("x.")).count();
        check.same("calls in README.md without an answer behind them", lines - calls, 0);
        check.same("there are calls in README.md", calls > 10, true);
        check.finish();
    }

    private static long answer(SeriesTables x, String name, String numbers) throws ReflectiveOperationException {
        String[] each = numbers.isEmpty() ? new String[0] : numbers.split(", ");
        Class<?>[] types = new Class<?>[each.length];
        Object[] values = new Object[each.length];
        for (int i = 0; i < each.length; i++) {
            types[i] = int.class;
            values[i] = Integer.decode(each[i]);
        }
        Method method = SeriesTables.class.getMethod(name, types);
        return due(method.invoke(x, values).toString());
    }

    private static long due(String told) {
        return told.equals("true") ? 1 : told.equals("false") ? 0 : Long.parseLong(told);
    }
}
