import java.io.IOException;
import java.lang.reflect.InvocationTargetException;
import java.lang.reflect.Method;
import java.lang.reflect.Modifier;
import java.nio.file.Files;
import java.nio.file.Path;
import java.util.NoSuchElementException;
import java.util.regex.Matcher;
import java.util.regex.Pattern;

/** README.md's examples answer what it says behind them, and it names every call of the face. */
public final class ReadmeTest {
    private static final Pattern BLOCK = Pattern.compile("```java\n(.*?)```", Pattern.DOTALL);
    private static final Pattern CALL = Pattern.compile("x\\.(\\w+)\\(([^)]*)\\);\\s*// (-?\\d+|true|false|throws)(:.*)?");
    private static final Pattern TYPED = Pattern.compile("type\\(x, \"([^\"]*)\"\\);");
    private static final int FEWEST_CALLS = 60;
    private static final Due due = new Due();
    private static StreetsStepOn x;

    public static void main(String[] args) throws IOException, IllegalAccessException {
        Path home = Path.of(System.getProperty("streets.home", "."));
        String page = Files.readString(home.resolve("README.md"));
        Matcher block = BLOCK.matcher(page);
        while (block.find()) {
            if (block.group(1).startsWith("static ")) {
                helper(block.group(1), Files.readString(home.resolve("src/test/java/Due.java")));
            } else {
                for (String line : block.group(1).split("\n")) {
                    run(line);
                }
            }
        }
        if (due.checks() < FEWEST_CALLS) {
            due.fault("only " + due.checks() + " examples were found");
        }
        allCalls(page);
        due.finish();
    }

    private static void run(String line) throws IllegalAccessException {
        Matcher call = CALL.matcher(line);
        Matcher typed = TYPED.matcher(line);
        if (line.equals("StreetsStepOn x = new StreetsStepOn();")) {
            x = new StreetsStepOn();
        } else if (typed.matches()) {
            Due.type(x, typed.group(1));
        } else if (call.matches()) {
            String got = answer(call.group(1), call.group(2));
            due.is("README: " + line + " [" + got + "]", got.equals(call.group(3)), true);
        } else {
            due.fault("README: can't be run: " + line);
        }
    }

    private static String answer(String name, String arguments) throws IllegalAccessException {
        String[] parts = arguments.isEmpty() ? new String[0] : arguments.split(", ");
        for (Method method : StreetsStepOn.class.getMethods()) {
            if (method.getName().equals(name) && method.getParameterCount() == parts.length) {
                Object[] values = new Object[parts.length];
                for (int i = 0; i < parts.length; i++) {
                    long value = Long.decode(parts[i]);
                    values[i] = method.getParameterTypes()[i] == long.class ? (Object) value : (Object) (int) value;
                }
                try {
                    return String.valueOf(method.invoke(x, values));
                } catch (InvocationTargetException e) {
                    boolean due = e.getCause().getClass() == NoSuchElementException.class;
                    return due ? "throws" : e.getCause().toString();
                }
            }
        }
        return "no such call";
    }

    /** The page's own function is the one by which the tests type. */
    private static void helper(String function, String source) {
        boolean same = bare(source).contains(bare(function));
        due.is("README: the function is as in Due.java", same, true);
    }

    private static String bare(String code) {
        return code.replaceAll("\\s+", " ").trim();
    }

    private static void allCalls(String page) {
        for (Method method : StreetsStepOn.class.getDeclaredMethods()) {
            if (Modifier.isPublic(method.getModifiers())) {
                boolean named = page.contains("`" + method.getName() + "(");
                due.is("README: names " + method.getName(), named, true);
            }
        }
    }
}
