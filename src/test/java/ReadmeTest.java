import java.io.IOException;
import java.lang.reflect.Method;
import java.nio.file.Files;
import java.nio.file.Path;
import java.util.regex.Matcher;
import java.util.regex.Pattern;

/** The examples of README.md: each call answers what stands behind it there. */
public final class ReadmeTest {
    private static final String NEW_DESK = "CordBoard desk = new CordBoard();";
    private static final Pattern CALL = Pattern.compile("desk\\.(\\w+)\\((.*)\\); +// (-?\\d+): .+");
    /** A page whose examples went missing would else pass. */
    private static final int LEAST_CALLS = 20;

    public static void main(String[] args) throws IOException, ReflectiveOperationException {
        CordBoard desk = null;
        boolean inExample = false;
        int calls = 0;
        int wrong = 0;
        for (String line : Files.readAllLines(Path.of("README.md"))) {
            if (line.startsWith("```")) {
                inExample = line.equals("```java");
                desk = null;
            } else if (inExample && line.equals(NEW_DESK)) {
                desk = new CordBoard();
            } else if (inExample) {
                calls++;
                if (!isAsDue(desk, line)) wrong++;
            }
        }
        if (calls < LEAST_CALLS) {
            wrong++;
            System.out.println("README.md has only " + calls + " calls in its examples");
        }
        System.out.println(wrong == 0 ? calls + " calls of README.md are as due" : wrong + " are not as due");
        if (wrong != 0) System.exit(1);
    }

    private static boolean isAsDue(CordBoard desk, String line) throws ReflectiveOperationException {
        Matcher parts = CALL.matcher(line);
        if (desk == null || !parts.matches()) {
            System.out.println("not a call on a desk with its answer: " + line);
            return false;
        }
        long got = answer(desk, parts.group(1), parts.group(2).isEmpty() ? new String[0] : parts.group(2).split(", "));
        if (got == Long.parseLong(parts.group(3))) return true;
        System.out.println(line + " -- answered " + got);
        return false;
    }

    private static long answer(CordBoard desk, String name, String[] given) throws ReflectiveOperationException {
        for (Method method : CordBoard.class.getMethods()) {
            Class<?>[] types = method.getParameterTypes();
            if (!method.getName().equals(name) || types.length != given.length) continue;
            Object[] values = new Object[given.length];
            for (int i = 0; i < given.length; i++) values[i] = valueOf(given[i], types[i]);
            return ((Number) method.invoke(desk, values)).longValue();
        }
        throw new NoSuchMethodException(name);
    }

    private static Object valueOf(String text, Class<?> type) {
        if (type == boolean.class) return Boolean.valueOf(text);
        if (type == long.class) return Long.valueOf(text);
        return Integer.valueOf(text);
    }
}
