import java.io.IOException;
import java.lang.reflect.InvocationTargetException;
import java.lang.reflect.Method;
import java.nio.file.Files;
import java.nio.file.Path;
import java.util.regex.Matcher;
import java.util.regex.Pattern;

/** Asks the calls that README.md shows, in their order, and looks whether they answer as it says. */
public final class ReadmeTest {
    private static final Pattern CALL = Pattern.compile("house\\.(\\w+)\\((.*?)\\); +// (.+)");
    private static final Pattern DUE = Pattern.compile("\"[^\"]*\"|throws \\w+|-?\\d+|true|false");
    private static final int LEAST_CALLS = 50;
    private static int wrong = 0;
    private static int asked = 0;

    public static void main(String[] args) throws IOException {
        Stepsdown house = new Stepsdown();
        for (String line : Files.readAllLines(Path.of("README.md"))) {
            if (line.startsWith("house.")) {
                ask(house, line);
            }
        }
        if (asked < LEAST_CALLS) {
            wrong++;
            System.out.println("README.md shows " + asked + " calls alone");
        }
        System.out.println(asked + " calls of README.md, " + wrong + " wrong answers");
        System.exit(wrong == 0 ? 0 : 1);
    }

    private static void ask(Stepsdown house, String line) {
        asked++;
        Matcher call = CALL.matcher(line);
        Matcher due = DUE.matcher(call.matches() ? call.group(3) : "");
        if (!due.lookingAt()) {
            tell(line, "cannot be read");
            return;
        }
        String got = answer(house, call.group(1), call.group(2));
        if (!due.group().equals(got)) {
            tell(line, "answered " + got);
        }
    }

    private static void tell(String line, String what) {
        wrong++;
        System.out.println(line + " " + what);
    }

    private static String answer(Stepsdown house, String name, String told) {
        String[] texts = told.isEmpty() ? new String[0] : told.split(", ");
        for (Method method : Stepsdown.class.getDeclaredMethods()) {
            if (method.getName().equals(name) && method.getParameterCount() == texts.length) {
                return answer(house, method, texts);
            }
        }
        return "nothing: there is no such method";
    }

    private static String answer(Stepsdown house, Method method, String[] texts) {
        Object[] values = new Object[texts.length];
        for (int place = 0; place < texts.length; place++) {
            boolean isTruth = method.getParameterTypes()[place] == boolean.class;
            values[place] = isTruth ? (Object) Boolean.valueOf(texts[place]) : (Object) Integer.valueOf(texts[place]);
        }
        try {
            Object got = method.invoke(house, values);
            return got instanceof String ? "\"" + got + "\"" : String.valueOf(got);
        } catch (InvocationTargetException e) {
            return "throws " + e.getCause().getClass().getSimpleName();
        } catch (IllegalAccessException e) {
            return "nothing: it is not public";
        }
    }
}
