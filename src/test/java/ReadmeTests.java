import java.io.IOException;
import java.lang.reflect.InvocationTargetException;
import java.lang.reflect.Method;
import java.nio.file.Files;
import java.nio.file.Path;
import java.util.List;
import java.util.regex.Matcher;
import java.util.regex.Pattern;

/** The calls that README.md shows are answered as it says, in their order, on one object. */
public final class ReadmeTests {
    private static final String MAKING = "SurroundedKing x = new SurroundedKing();";
    /** A call, and behind it the answer, or "throws" and an exception, with what may be said of it behind a colon. */
    private static final Pattern SHOWN =
            Pattern.compile("x\\.(\\w+)\\((.*)\\); +// ('.'|throws \\w+|[\\w.-]+)(: .+)?");
    private static final Checks checks = new Checks();

    public static void main(String[] args) throws IOException {
        List<String> lines = Files.readAllLines(Path.of("README.md"));
        int begun = lines.indexOf(MAKING);
        checks.same("the run is shown", begun > 0, true);
        SurroundedKing x = new SurroundedKing();
        int tried = 0;
        int thrown = 0;
        for (int i = begun + 1; begun > 0 && !lines.get(i).startsWith("```"); i++) {
            Matcher shown = SHOWN.matcher(lines.get(i));
            checks.same("a call with its answer: " + lines.get(i), shown.matches(), true);
            if (shown.matches()) {
                String due = shown.group(3);
                checks.same(lines.get(i), answer(x, shown.group(1), shown.group(2)), due);
                tried++;
                thrown += due.startsWith("throws ") ? 1 : 0;
            }
        }
        checks.same("calls and wrong calls are shown", tried >= 10 && thrown >= 1, true);
        checks.end();
    }

    private static String answer(SurroundedKing x, String name, String told) {
        for (Method method : SurroundedKing.class.getMethods()) {
            if (method.getName().equals(name)) {
                return answer(x, method, told.isEmpty() ? new String[0] : told.split(", "));
            }
        }
        return "no such method";
    }

    private static String answer(SurroundedKing x, Method method, String[] told) {
        Class<?>[] types = method.getParameterTypes();
        if (types.length != told.length) {
            return "no such parameters";
        }
        Object[] args = new Object[told.length];
        for (int i = 0; i < told.length; i++) {
            args[i] = valueOf(told[i], types[i]);
        }
        try {
            Object got = method.invoke(x, args);
            return got instanceof Character ? "'" + got + "'" : String.valueOf(got);
        } catch (InvocationTargetException e) {
            return "throws " + e.getCause().getClass().getSimpleName();
        } catch (IllegalAccessException e) {
            return "no access";
        }
    }

    private static Object valueOf(String told, Class<?> type) {
        if (type == boolean.class) {
            return Boolean.valueOf(told);
        }
        return type == char.class ? (Object) told.charAt(1) : (Object) Integer.valueOf(told);
    }
}
